/** The edges of slips, and of what tests and sums tell of the workroom, a function for each sentence. */
public final class EdgesOfSlipsTest {
  private static final String WOOL = "card c ply 9 yards 999 price 3;";
  private static final String JERSEYS = "jersey j cloth 9 elbows 0;jersey k cloth 9 elbows 0;";
  private static final String HAND = "hand h needle 1 pace 9;";
  private static final Due due = new Due();

  public static void main(String[] args) {
    emptyAtFirst();
    whatASlipIs();
    greatestPrice();
    fourHundredBytes();
    nothingOtherwise();
    fullPaper();
    laterSlips();
    hour();
    waits();
    wool();
    holes();
    thin();
    stitches();
    free();
    asTheyAreNow();
    eachOfThem();
    comparisons();
    lessAndMore();
    both();
    bindsMore();
    due.end("EdgesOfSlipsTest");
  }

  private static void reads(DarnRoom room, String want) {
    String paper = Due.paper(room);
    due.holds("the paper is " + want + ", not " + paper, paper.equals(want));
  }

  private static void emptyAtFirst() {
    due.says("The paper is empty, at first");
    DarnRoom room = new DarnRoom();
    due.is("count(10)", room.count(10), 0);
    due.refuses(room, "byteAt(0)", IndexOutOfBoundsException.class, () -> room.byteAt(0));
    due.is("clear()", room.clear(), 0);
    DarnRoom taught = Due.taught(WOOL + HAND + JERSEYS + "ticket t for j darn 8 by 6 at 0 on 0 with c;");
    taught.pass(5);
    due.is("count(10) ahead of the first slip", taught.count(10), 0);
    taught.pass(1);
    due.is("count(10) behind it", taught.count(10), 6);
  }

  private static void whatASlipIs() {
    due.says("a slip is the name of the ticket, a blank (32), its price in digits, and a line end (10)");
    int[] cells = {0, 1, 2, 3, 4, 5, 6, 7, 8};
    for (int many : cells) {
      for (int price : new int[] {1, 9, 10, 20}) {
        DarnRoom room = Due.taught("card c ply 1 yards 9 price " + price + ";" + HAND + JERSEYS + "ticket a1 for j darn " + many
            + " by 1 at 0 on 0 with c;");
        room.pass(1);
        reads(room, "a1 " + many * price + "\n");
      }
    }
    DarnRoom room = Due.taught("card c ply 1 yards 9 price 5;" + HAND + JERSEYS + "ticket z for j darn 2 by 1 at 0 on 0 with c;");
    room.pass(1);
    int[] bytes = {122, 32, 49, 48, 10};
    for (int i = 0; i < 5; i++) due.is("byteAt(" + i + ")", room.byteAt(i), bytes[i]);
    due.is("count(10)", room.count(10), 5);
  }

  private static void greatestPrice() {
    due.says("its price in digits");
    DarnRoom room = Due.taught("card c ply 1 yards 999 price 20;" + HAND + JERSEYS + "ticket abcdefghij for j darn 8 by 6 at 0 on 0 with c"
        + Rooms.times(5, " then darn 8 by 6 at 0 on 0 with c") + ";");
    due.is("pass(32), all the stitches that a ticket can have", room.pass(32), 288);
    due.is("ticket(0, 3)", room.ticket(0, 3), 5760);
    reads(room, "abcdefghij 5760\n");
  }

  /** Lets slips of so many bytes in all be written, of 5 to 13 bytes each; the last one is as long as it has to be. */
  private static DarnRoom filled(int bytes) {
    DarnRoom room = new DarnRoom();
    int left = bytes;
    for (int bundle = 0; bundle < 5 && left > 0; bundle++) {
      StringBuilder text = new StringBuilder(WOOL + HAND + JERSEYS);
      int many = 0;
      for (int i = 0; i < 12 && left > 0; i++) {
        int size = left <= 13 ? left : Math.min(13, left - 5);
        text.append("ticket " + "abcdefghi".substring(0, size - 4) + (char) ('a' + i) + " for j darn 1 by 1 at 0 on 0 with c;");
        left -= size;
        many++;
      }
      due.is("teach() of the test's own bundle", Due.teach(room, text.toString()), 0);
      due.is("pass()", room.pass(many), many);
    }
    due.is("count(10)", room.count(10), bytes);
    return room;
  }

  /** One more slip of so many bytes, of 4 to 13, is written, or is not. */
  private static void oneMore(int bytes, int more, boolean written) {
    DarnRoom room = filled(bytes);
    String name = "abcdefghij".substring(0, more - 3);
    Due.teach(room, WOOL + HAND + JERSEYS + "ticket " + name + " for k darn 1 by 1 at 0 on 0 with c;");
    due.is("pass(1)", room.pass(1), 1);
    due.is("ticket(0, 0)", room.ticket(0, 0), 2);
    due.is("count(10) behind " + bytes + " and " + more, room.count(10), written ? bytes + more : bytes);
    String slip = name + " 3\n";
    for (int i = 0; written && i < more; i++) due.is("byteAt(" + (bytes + i) + ")", room.byteAt(bytes + i), slip.charAt(i));
    due.refuses(room, "byteAt() behind it", IndexOutOfBoundsException.class, () -> room.byteAt(written ? bytes + more : bytes));
  }

  private static void fourHundredBytes() {
    due.says("if the paper has 400 bytes or fewer with it");
    for (int more = 4; more <= 13; more++) {
      oneMore(400 - more - 1, more, true);
      oneMore(400 - more, more, true);
    }
  }

  private static void nothingOtherwise() {
    due.says("otherwise nothing is written");
    for (int more = 4; more <= 13; more++) {
      oneMore(400 - more + 1, more, false);
      oneMore(400, more, false);
    }
  }

  private static void fullPaper() {
    due.says("if the paper has 400 bytes or fewer with it; otherwise nothing is written");
    DarnRoom room = filled(400);
    due.is("byteAt(399)", room.byteAt(399), 10);
    due.refuses(room, "byteAt(400)", IndexOutOfBoundsException.class, () -> room.byteAt(400));
    due.is("clear()", room.clear(), 400);
    due.is("count(10)", room.count(10), 0);
    Due.teach(room, WOOL + HAND + JERSEYS + "ticket t for k darn 1 by 1 at 0 on 0 with c;");
    room.pass(1);
    reads(room, "t 3\n");
  }

  private static void laterSlips() {
    due.says("otherwise nothing is written");
    DarnRoom room = filled(393);
    String step = " for j darn 1 by 1 at 0 on 0 with c;";
    Due.teach(room, WOOL + HAND + JERSEYS + "ticket abcde" + step + "ticket abcd" + step + "ticket abcdef" + step + "ticket e" + step);
    int[] bytes = {393, 400, 400, 400};
    for (int i = 0; i < 4; i++) {
      due.is("pass(1)", room.pass(1), 1);
      due.is("count(10) behind slip " + i, room.count(10), bytes[i]);
      due.is("ticket(" + i + ", 0)", room.ticket(i, 0), 2);
    }
  }

  /** The hour in which a ticket is taken that has this test, up to hour 20; -1 if it is in none. */
  private static int hourOf(String things, String test) {
    DarnRoom room = Due.taught(things + "ticket t for k when " + test + " darn 0 by 1 at 0 on 0 with c;");
    int last = room.count(4) - 1;
    room.pass(21);
    return room.ticket(last, 4);
  }

  private static void hour() {
    due.says("In tests and sums hour is the hour");
    for (int hour = 0; hour <= 20; hour++) due.is("hour = " + hour, hourOf(WOOL + HAND + JERSEYS, "hour = " + hour), hour);
    due.is("hour < 0", hourOf(WOOL + HAND + JERSEYS, "hour < 0"), -1);
    due.is("hour > 12", hourOf(WOOL + HAND + JERSEYS, "hour > 12"), 13);
  }

  private static void waits() {
    due.says("waits how many tickets wait");
    for (int many = 0; many <= 11; many++) {
      StringBuilder others = new StringBuilder(WOOL + HAND + JERSEYS);
      for (int i = 0; i < many; i++) others.append("ticket w" + i + " for j when hour < 0 darn 1 by 1 at 0 on 0 with c;");
      due.is("waits of " + many + " others", hourOf(others.toString(), "waits = " + (many + 1)), 0);
      due.is("waits of " + many + " others, less", hourOf(others.toString(), "waits < " + (many + 1)), -1);
    }
    // One at a hand, and one that is done, do not wait any more.
    String two = WOOL + HAND + "hand g needle 1 pace 1;" + JERSEYS + "ticket u for j darn 2 by 1 at 0 on 0 with c;"
        + "ticket v for j darn 8 by 6 at 0 on 0 with c;";
    due.is("waits = 1", hourOf(two, "waits = 1 and hour > 0"), 1);
    due.is("waits = 2", hourOf(two, "waits = 2"), 0);
  }

  private static void wool() {
    due.says("wool the yards of a card");
    for (int yards : new int[] {0, 1, 998, 999}) {
      String things = "card c ply 1 yards " + yards + " price 1;card d ply 9 yards 7 price 9;" + HAND + JERSEYS;
      due.is("wool c = " + yards, hourOf(things, "wool c = " + yards), 0);
      due.is("wool d = 7", hourOf(things, "wool d = 7"), 0);
    }
    String used = WOOL + "hand g needle 1 pace 3;" + HAND + JERSEYS + "ticket u for j darn 8 by 6 at 0 on 0 with c;";
    for (int hour = 0; hour < 5; hour++) due.is("wool c in hour " + hour, hourOf(used, "wool c = " + (999 - 3 * hour)), hour);
  }

  private static void holes() {
    due.says("holes how many holes a jersey has");
    String things = WOOL + HAND + JERSEYS + "jersey l cloth 1 elbows 0;jersey m cloth 4 elbows 3;";
    due.is("holes l = 0", hourOf(things, "holes l = 0"), 0);
    due.is("holes l = 48", hourOf(things, "holes l = 48"), 12);
    due.is("holes m = 8", hourOf(things, "holes m = 8"), 12);
    due.is("holes k > 0", hourOf(things, "holes k > 0"), -1);
    String darned = WOOL + HAND + JERSEYS + "jersey l cloth 1 elbows 0;ticket u for l darn 8 by 5 at 0 on 0 with c then darn 7 by 1 at 0 on 5 with c;";
    due.is("holes l = 1", hourOf(darned, "holes l = 1"), 12);
  }

  private static void thin() {
    due.says("thin how thick its thinnest cell is");
    String things = WOOL + "hand g needle 1 pace 9;" + HAND + "jersey k cloth 20 elbows 0;jersey l cloth 1 elbows 0;jersey m cloth 5 elbows 3;";
    due.is("thin k = 20", hourOf(things, "thin k = 20"), 0);
    due.is("thin k = 19", hourOf(things, "thin k = 19"), 12);
    due.is("thin l = 1", hourOf(things, "thin l = 1"), 0);
    due.is("thin l = 0", hourOf(things, "thin l = 0"), 12);
    due.is("thin m = 1", hourOf(things, "thin m = 1"), 12);
    String most = things + "ticket u for k darn 8 by 6 at 0 on 0 with c then darn 8 by 6 at 0 on 0 with c;";
    // Done in hour 10, so that it is worn in hour 11, behind the first test of which holds.
    due.is("thin k = 30", hourOf(most, "thin k = 30"), 11);
    due.is("thin k > 30", hourOf(most, "thin k > 30"), -1);
    String oneLess = things + "ticket u for k darn 8 by 6 at 0 on 0 with c then darn 8 by 5 at 0 on 0 with c then darn 7 by 1 at 0 on 5 with c;";
    due.is("thin k = 30 but for a cell", hourOf(oneLess, "thin k = 30"), -1);
    due.is("thin k = 29", hourOf(oneLess, "thin k = 29 and hour > 10"), 11);
  }

  private static void stitches() {
    due.says("stitches those of a ticket so far");
    String things = WOOL + "hand g needle 1 pace 3;" + HAND + JERSEYS + "ticket u for j darn 8 by 1 at 0 on 0 with c;"
        + "ticket v for j when hour < 0 darn 8 by 1 at 0 on 0 with c;";
    due.is("stitches u = 0", hourOf(things, "stitches u = 0"), 0);
    due.is("stitches u = 3", hourOf(things, "stitches u = 3"), 1);
    due.is("stitches u = 6", hourOf(things, "stitches u = 6"), 2);
    due.is("stitches u = 8", hourOf(things, "stitches u = 8"), 3);
    due.is("stitches u of one that is done", hourOf(things, "stitches u = 8 and hour = 20"), 20);
    due.is("stitches v of one that waits", hourOf(things, "stitches v = 0 and hour = 20"), 20);
    due.is("stitches u > 8", hourOf(things, "stitches u > 8"), -1);
  }

  private static void free() {
    due.says("free holds, if a hand has no ticket");
    String things = WOOL + "hand g needle 1 pace 4;" + HAND + JERSEYS + "ticket u for j when hour > 0 darn 8 by 1 at 0 on 0 with c;";
    due.is("free g", hourOf(things, "free g"), 0);
    due.is("not free g", hourOf(things, "not free g"), 1);
    due.is("free g behind it", hourOf(things, "free g and hour > 0"), 3);
    due.is("free h, that takes it", hourOf(things, "not free g and free h"), 1);
    due.is("not free h", hourOf(things, "not free h"), -1);
    // The hand g takes u, whose first step has no cells: it has a ticket, though nothing to weave, as the hand h looks.
    String idle = WOOL + "hand g needle 1 pace 4;" + HAND + JERSEYS + "ticket u for j darn 0 by 1 at 0 on 0 with c;";
    due.is("not free g, that has no cells to weave", hourOf(idle, "not free g"), 0);
    due.is("free g, that has no cells to weave", hourOf(idle, "free g"), 1);
  }

  /** How many cells the second step of a ticket for j has, behind a first one of 1 cell a stitch. */
  private static int cellsOfSecond(DarnRoom room, int hours) {
    room.pass(hours);
    due.is("hand(0, 3)", room.hand(0, 3), 1);
    return room.hand(0, 4);
  }

  private static void asTheyAreNow() {
    due.says("wool the yards of a card, holes how many holes a jersey has, thin how thick its thinnest cell is, as a later step begins");
    String before = "card c ply 1 yards 60 price 3;hand g needle 1 pace 4;" + HAND + "jersey j cloth 1 elbows 0;jersey k cloth 1 elbows 0;ticket t for j ";
    DarnRoom holes = Due.taught(before + "darn 4 by 1 at 0 on 0 with c then darn 8 by holes j - 43 at 0 on 1 with c;");
    holes.wear(0, 1);
    due.is("cells of holes j - 43, with 44 holes", cellsOfSecond(holes, 1), 8);
    DarnRoom wool = Due.taught(before + "darn 4 by 1 at 0 on 0 with c then darn 8 by wool c - 55 at 0 on 1 with c;");
    due.is("cells of wool c - 55, with 56 yards", cellsOfSecond(wool, 1), 8);
    DarnRoom thin = Due.taught(before + "darn 8 by 6 at 0 on 0 with c then darn thin j by 1 at 0 on 1 with c;");
    due.is("cells of thin j of 1 and more", cellsOfSecond(thin, 12), 2);
    // The hand h is behind the hand g, and sees what it has woven in this hour.
    DarnRoom others = Due.taught(before + "darn 8 by 1 at 0 on 0 with c;ticket u for k darn 0 by 1 at 0 on 0 with c"
        + " then darn stitches t - 2 by holes j - 42 at 0 on 1 with c;");
    others.wear(0, 1);
    others.pass(1);
    due.is("ticket(1, 2), 2 by 2 cells", others.ticket(1, 2), 4);
  }

  private static void eachOfThem() {
    due.says("wool the yards of a card, holes how many holes a jersey has, thin how thick its thinnest cell is, stitches those of a ticket so far");
    StringBuilder things = new StringBuilder(HAND.replace("pace 9", "pace 1"));
    for (int i = 0; i < 6; i++) {
      things.append("card c" + i + " ply 1 yards " + (100 + i) + " price 1;jersey j" + i + " cloth " + (9 + i) + " elbows 0;");
    }
    things.append("hand g needle 1 pace 1;");
    // Each of the tickets has one stitch more than the one ahead of it, and all are done in hour 10.
    for (int i = 0; i < 5; i++) things.append("ticket t" + i + " for j5 darn " + i + " by 1 at 0 on 0 with c5;");
    String step = " darn 0 by 1 at 0 on 0 with c0;";
    for (int i = 0; i < 6; i++) {
      StringBuilder text = new StringBuilder(things);
      text.append("ticket u for j0 when wool c" + i + " = " + (100 + i) + step + "ticket v for j1 when thin j" + i + " = " + (9 + i) + step);
      text.append("ticket w for j2 when holes j" + i + " = 0" + step);
      DarnRoom room = Due.taught(text.toString());
      room.pass(9);
      for (int t = 5; t < 8; t++) due.is("ticket(" + t + ", 0) of the things " + i, room.ticket(t, 0), 2);
    }
    for (int i = 0; i < 5; i++) {
      String test = "hour = 11 and stitches t" + i + " = " + i;
      DarnRoom room = Due.taught(things + "ticket u for j0 when " + test + step);
      room.pass(12);
      due.is("stitches of ticket " + i, room.ticket(5, 0), 2);
    }
  }

  private static void comparisons() {
    due.says("sum ( < | > | = | <= | >= ) sum");
    int[] numbers = {Integer.MIN_VALUE, Integer.MIN_VALUE + 1, -1, 0, 1, 2, Integer.MAX_VALUE - 1, Integer.MAX_VALUE};
    for (int left : numbers) {
      for (int right : numbers) {
        String a = Rooms.sumOf(left);
        String b = Rooms.sumOf(right);
        due.holds(left + " < " + right, Rooms.holds(a + " < " + b) == left < right);
        due.holds(left + " > " + right, Rooms.holds(a + " > " + b) == left > right);
        due.holds(left + " = " + right, Rooms.holds(a + " = " + b) == (left == right));
        due.holds(left + " <= " + right, Rooms.holds(a + " <= " + b) == left <= right);
        due.holds(left + " >= " + right, Rooms.holds(a + " >= " + b) == left >= right);
        due.holds("not " + left + " < " + right, Rooms.holds("not " + a + " < " + b) == left >= right);
        due.holds("not " + left + " <= " + right, Rooms.holds("not " + a + " <= " + b) == left > right);
        due.holds("not " + left + " >= " + right, Rooms.holds("not " + a + " >= " + b) == left < right);
      }
    }
  }

  private static void lessAndMore() {
    due.says("( min | max ) ( sum , sum )");
    int[] numbers = {Integer.MIN_VALUE, -1, 0, 1, Integer.MAX_VALUE};
    for (int left : numbers) {
      for (int right : numbers) {
        String both = "(" + Rooms.sumOf(left) + "," + Rooms.sumOf(right) + ")";
        due.holds("min of " + left + " and " + right, Rooms.holds("min" + both + " = " + Rooms.sumOf(Math.min(left, right))));
        due.holds("max of " + left + " and " + right, Rooms.holds("max" + both + " = " + Rooms.sumOf(Math.max(left, right))));
      }
    }
  }

  private static void both() {
    due.says("Both sides of and and or are reckoned");
    due.holds("or with nothing on the right side of /", Rooms.holds("1 = 1 or 1 / 0 = 5"));
    due.holds("or with nothing on the right side of / ahead", Rooms.holds("1 / 0 = 5 or 1 = 1"));
    due.holds("and with nothing on the right side of /", !Rooms.holds("1 = 2 and 1 / 0 = 0"));
    due.holds("and of two", Rooms.holds("1 / 0 = 0 and 2 / 0 = 0"));
  }

  private static void bindsMore() {
    due.says("and binds more than or, not more than and");
    String[] sides = {"1 = 2", "1 = 1"};
    for (int i = 0; i < 8; i++) {
      boolean a = (i & 4) != 0;
      boolean b = (i & 2) != 0;
      boolean c = (i & 1) != 0;
      String sa = sides[i >> 2 & 1];
      String sb = sides[i >> 1 & 1];
      String sc = sides[i & 1];
      due.holds(sa + " or " + sb + " and " + sc, Rooms.holds(sa + " or " + sb + " and " + sc) == (a || b && c));
      due.holds(sa + " and " + sb + " or " + sc, Rooms.holds(sa + " and " + sb + " or " + sc) == (a && b || c));
      due.holds("[" + sa + " or " + sb + "] and " + sc, Rooms.holds("[" + sa + " or " + sb + "] and " + sc) == ((a || b) && c));
      due.holds("not " + sa + " and " + sb, Rooms.holds("not " + sa + " and " + sb) == (!a && b));
      due.holds("not " + sa + " or " + sb, Rooms.holds("not " + sa + " or " + sb) == (!a || b));
      due.holds("not [" + sa + " and " + sb + "]", Rooms.holds("not [" + sa + " and " + sb + "]") == !(a && b));
      due.holds("not [" + sa + " or " + sb + "]", Rooms.holds("not [" + sa + " or " + sb + "]") == !(a || b));
      due.holds(sa + " and not " + sb + " or " + sc, Rooms.holds(sa + " and not " + sb + " or " + sc) == (a && !b || c));
    }
  }
}
