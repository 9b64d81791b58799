import java.util.ArrayList;
import java.util.List;

/** The edges of the calls of promises 1 to 17, a function for each sentence. */
public final class EdgesOfCallsTest {
  private static final Class<IndexOutOfBoundsException> NO_INDEX = IndexOutOfBoundsException.class;
  private static final Class<IllegalArgumentException> NO_ARGUMENT = IllegalArgumentException.class;
  private static final Class<IllegalStateException> NO_STATE = IllegalStateException.class;
  private static final int[] FAR = {Integer.MIN_VALUE, Integer.MIN_VALUE + 1, -65536, -256, -2, 256, 65536, Integer.MAX_VALUE};
  // In hour 2 of it t is done, u is at the hand h, v and w wait.
  private static final String WORK = "card c ply 2 yards 50 price 3;card d ply 9 yards 0 price 20;hand h needle 1 pace 3;hand g needle 4 pace 9;"
      + "jersey j cloth 5 elbows 2;jersey k cloth 20 elbows 0;jersey l cloth 1 elbows 0;"
      + "ticket t for j darn 2 by 2 at 0 on 0 with c then darn 1 by 1 at 7 on 5 with c;"
      + "ticket u for k when hour > 0 darn 8 by 6 at 0 on 0 with c;"
      + "ticket v for l when hour > 99 darn 1 by 1 at 0 on 0 with d;ticket w for l when hour > 98 darn 1 by 1 at 0 on 0 with d;";
  private static final Due due = new Due();

  public static void main(String[] args) {
    newObject();
    feedAppends();
    feedAtMost();
    trimKeeps();
    trimRefuses();
    teachAnswers();
    teachInThePlace();
    hourAndPaperStay();
    allStays();
    errorAtOfTheLatest();
    count();
    countRefuses();
    card();
    windAtMost();
    windRefuses();
    hand();
    handWithout();
    handStitches();
    cell();
    jersey();
    jerseyUnderNone();
    ticket();
    ticketWithout();
    hurry();
    hurryRefuses();
    wear();
    wearRefuses();
    tear();
    patch();
    patchOfSeveral();
    pass();
    passRefuses();
    firstNamedIsThrown();
    nothingChanges();
    due.end("EdgesOfCallsTest");
  }

  private interface Indexed {
    int call(int index);
  }

  /** The call fits for indexes from 0 to just below many, and for no others. */
  private static void indexed(DarnRoom room, String name, int many, Indexed calls) {
    for (int i = 0; i < many; i++) {
      int index = i;
      try {
        calls.call(index);
      } catch (RuntimeException e) {
        due.say(name + " of " + index + " threw " + e);
      }
    }
    List<Integer> wrong = new ArrayList<>(List.of(-1, many));
    for (int far : FAR) wrong.add(far);
    for (int index : wrong) due.refuses(room, name + " of " + index, NO_INDEX, () -> calls.call(index));
  }

  private static DarnRoom working() {
    DarnRoom room = Due.taught(WORK);
    due.is("pass(2)", room.pass(2), 14);
    return room;
  }

  private static void newObject() {
    due.says("Creates a workroom without anything, in the hour 0.");
    DarnRoom room = new DarnRoom();
    for (int what = 0; what <= 11; what++) due.is("count(" + what + ")", room.count(what), 0);
    due.is("errorAt()", room.errorAt(), -1);
    due.is("clear()", room.clear(), 0);
    due.isD("mean()", room.mean(), 0);
    due.refuses(room, "card(0, 0)", NO_INDEX, () -> room.card(0, 0));
    due.refuses(room, "hand(0, 0)", NO_INDEX, () -> room.hand(0, 0));
    due.refuses(room, "jersey(0, 0)", NO_INDEX, () -> room.jersey(0, 0));
    due.refuses(room, "ticket(0, 0)", NO_INDEX, () -> room.ticket(0, 0));
    due.refuses(room, "cell(0, 0, 0)", NO_INDEX, () -> room.cell(0, 0, 0));
    due.refuses(room, "wind(0, 1)", NO_INDEX, () -> room.wind(0, 1));
    due.refuses(room, "hurry(0)", NO_INDEX, () -> room.hurry(0));
    due.refuses(room, "wear(0, 1)", NO_INDEX, () -> room.wear(0, 1));
    due.refuses(room, "tear(0)", NO_INDEX, () -> room.tear(0));
    due.refuses(room, "patch(0)", NO_INDEX, () -> room.patch(0));
    due.refuses(room, "done(0)", NO_INDEX, () -> room.done(0));
    due.refuses(room, "lasts(0)", NO_INDEX, () -> room.lasts(0));
    due.refuses(room, "byteAt(0)", NO_INDEX, () -> room.byteAt(0));
    due.is("pass(120)", room.pass(120), 0);
    due.is("count(0)", room.count(0), 120);
  }

  private static void feedAppends() {
    due.says("Appends twenty bytes to the tape: the four bytes of each number, the highest one first.");
    String text = "hand abcdefghij need";
    String rest = "le 000004 pace 9;   ";
    DarnRoom room = new DarnRoom();
    due.is("feed()", room.feed(four(text, 0), four(text, 4), four(text, 8), four(text, 12), four(text, 16)), 20);
    due.is("feed()", room.feed(four(rest, 0), four(rest, 4), four(rest, 8), four(rest, 12), four(rest, 16)), 40);
    due.is("teach()", room.teach(), 0);
    due.is("hand(0, 0)", room.hand(0, 0), 4);
    due.is("hand(0, 1)", room.hand(0, 1), 9);
    // Each of the twenty places: a sign that is wrong there, and blanks before it.
    for (int at = 0; at < 20; at++) {
      int[] numbers = {0x20202020, 0x20202020, 0x20202020, 0x20202020, 0x20202020};
      numbers[at / 4] ^= 0xa0 << 8 * (3 - at % 4);
      due.is("feed()", room.feed(numbers[0], numbers[1], numbers[2], numbers[3], numbers[4]), 20);
      due.is("teach()", room.teach(), 1);
      due.is("errorAt() of byte " + at, room.errorAt(), at);
    }
  }

  private static int four(String text, int at) {
    return text.charAt(at) << 24 | text.charAt(at + 1) << 16 | text.charAt(at + 2) << 8 | text.charAt(at + 3);
  }

  private static void feedAtMost() {
    due.says("Throws IllegalStateException if there would be more than 2000");
    DarnRoom room = new DarnRoom();
    for (int i = 1; i <= 100; i++) due.is("feed()", room.feed(0, 0, 0, 0, 0), 20 * i);
    for (int kept : new int[] {2000, 1999, 1990, 1982, 1981}) {
      due.is("trim(" + kept + ")", room.trim(kept), kept);
      due.refuses(room, "feed() with " + kept, NO_STATE, () -> room.feed(0, 0, 0, 0, 0));
      due.is("count(11)", room.count(11), kept);
    }
    room.trim(1980);
    due.is("feed() with 1980", room.feed(0, 0, 0, 0, 0), 2000);
    room.trim(1979);
    due.is("feed() with 1979", room.feed(0, 0, 0, 0, 0), 1999);
  }

  private static void trimKeeps() {
    due.says("Shortens the tape to its first bytes.");
    String two = Rooms.HAND + "hand g needle 1 pace 1;";
    for (int kept = two.length(); kept >= two.length() - 1; kept--) {
      DarnRoom room = new DarnRoom();
      Due.feed(room, two + "!!!!!!");
      for (int n = two.length() + 6; n >= kept; n--) due.is("trim(" + n + ")", room.trim(n), n);
      due.is("count(11)", room.count(11), kept);
      Due.feed(room, Rooms.CARD);
      due.is("count(11) behind a feed", room.count(11), kept + Rooms.CARD.length());
      due.is("teach() of what is kept", room.teach(), kept == two.length() ? 0 : 1);
      due.is("errorAt()", room.errorAt(), kept == two.length() ? -1 : kept);
      due.is("count(2)", room.count(2), kept == two.length() ? 2 : 0);
    }
  }

  private static void trimRefuses() {
    due.says("Throws IllegalArgumentException if n is not 0 to the number of bytes of the tape");
    for (int bytes : new int[] {0, 1, 19, 20, 39, 1999, 2000}) {
      DarnRoom room = new DarnRoom();
      Due.feed(room, Rooms.times(bytes, " "));
      due.refuses(room, "trim(-1) of " + bytes, NO_ARGUMENT, () -> room.trim(-1));
      due.refuses(room, "trim() of one more than " + bytes, NO_ARGUMENT, () -> room.trim(bytes + 1));
      for (int far : FAR) {
        if (far < 0 || far > bytes) due.refuses(room, "trim(" + far + ") of " + bytes, NO_ARGUMENT, () -> room.trim(far));
      }
      due.is("trim() of all", room.trim(bytes), bytes);
      due.is("count(11)", room.count(11), bytes);
      due.is("trim(0)", room.trim(0), 0);
      due.is("count(11)", room.count(11), 0);
      due.refuses(room, "trim(1) behind it", NO_ARGUMENT, () -> room.trim(1));
    }
  }

  private static void teachAnswers() {
    due.says("Returns 0, or the error, 1 to 5.");
    String[] texts = {Rooms.THINGS, "card", Rooms.CARD + Rooms.CARD, Rooms.TICKET,
        "hand a needle 1 pace 1;hand b needle 1 pace 1;hand d needle 1 pace 1;hand e needle 1 pace 1;hand f needle 1 pace 1;",
        "hand h needle 0 pace 1;"};
    for (int error = 0; error <= 5; error++) due.is("teach()", Due.teach(new DarnRoom(), texts[error]), error);
  }

  private static void teachInThePlace() {
    due.says("Reads the tape as a bundle, in the place of all that was told before");
    DarnRoom room = working();
    due.is("teach() of a hand", Due.teach(room, Rooms.HAND), 0);
    int[] counts = {2, 0, 1, 0, 0, 0, 0, 0, 0, 0, 5, 0};
    for (int what = 0; what <= 11; what++) due.is("count(" + what + ")", room.count(what), counts[what]);
    int[] hand = {1, 1, -1, -1, 0, 0};
    for (int what = 0; what <= 5; what++) due.is("hand(0, " + what + ")", room.hand(0, what), hand[what]);
    due.refuses(room, "card(0, 0)", NO_INDEX, () -> room.card(0, 0));
    due.refuses(room, "hand(1, 0)", NO_INDEX, () -> room.hand(1, 0));
    due.refuses(room, "jersey(0, 0)", NO_INDEX, () -> room.jersey(0, 0));
    due.refuses(room, "ticket(0, 0)", NO_INDEX, () -> room.ticket(0, 0));
    due.isD("mean()", room.mean(), 0);
    due.is("teach() of no names told ahead", Due.teach(room, Rooms.TICKET), 3);
    due.is("teach() of nothing", room.teach(), 0);
    for (int what = 1; what <= 4; what++) due.is("count(" + what + ")", room.count(what), 0);
  }

  private static void hourAndPaperStay() {
    due.says("the hour and the paper stay");
    DarnRoom room = working();
    for (String text : new String[] {"", Rooms.THINGS, WORK}) {
      due.is("teach()", Due.teach(room, text), 0);
      due.is("count(0)", room.count(0), 2);
      due.holds("the paper stays", Due.paper(room).equals("t 15\n"));
    }
    due.is("ticket(0, 0)", room.ticket(0, 0), 0);
    room.pass(2);
    due.holds("a slip behind it", Due.paper(room).equals("t 15\nt 15\n"));
  }

  private static void allStays() {
    due.says("If it has an error, all stays (but the tape is empty).");
    String[] texts = {"hand", "hand h needle 1 pace 1;hand h needle 1 pace 1;", Rooms.TICKET, "card c ply 10 yards 1 price 1;", "!",
        "hand a needle 1 pace 1;hand b needle 1 pace 1;hand d needle 1 pace 1;hand e needle 1 pace 1;hand f needle 1 pace 1;",
        WORK + WORK, WORK.substring(0, WORK.length() - 1)};
    DarnRoom room = working();
    DarnRoom plain = working();
    due.is("hurry(3)", room.hurry(3), plain.hurry(3));
    for (String text : texts) {
      due.holds("teach() of " + text + " has an error", Due.teach(room, text) != 0);
      due.is("digest() behind it", room.digest(), plain.digest());
      due.is("count(11)", room.count(11), 0);
    }
    due.is("pass(99)", room.pass(99), plain.pass(99));
    due.is("digest() behind it", room.digest(), plain.digest());
  }

  private static void errorAtOfTheLatest() {
    due.says("Returns the position of the error of the latest teach(); -1 if it had none, or there was none.");
    DarnRoom room = new DarnRoom();
    due.is("errorAt() without teach()", room.errorAt(), -1);
    Due.feed(room, "!");
    due.is("errorAt() of a tape that is not taught", room.errorAt(), -1);
    room.teach();
    due.is("errorAt() of 0", room.errorAt(), 0);
    Due.feed(room, " !");
    room.pass(1);
    due.is("errorAt() until the next one", room.errorAt(), 0);
    room.teach();
    due.is("errorAt() of 1", room.errorAt(), 1);
    due.is("teach() without an error", Due.teach(room, Rooms.HAND), 0);
    due.is("errorAt() behind it", room.errorAt(), -1);
    due.is("teach() with error 5", Due.teach(room, "hand h needle 5 pace 1;"), 5);
    due.is("errorAt() behind it", room.errorAt(), 14);
    due.is("teach() of nothing", room.teach(), 0);
    due.is("errorAt() behind it", room.errorAt(), -1);
    due.is("teach() of 2000 bytes", Due.teach(room, "hand" + Rooms.times(1996, " ")), 1);
    due.is("errorAt() behind it", room.errorAt(), 2000);
  }

  private static void count() {
    due.says("what: 0 the hour, 1 cards, 2 hands, 3 jerseys, 4 tickets, 5 those of these that wait, 6 those that are done, 7 stitches of all"
        + " tickets, 8 holes of all jerseys, 9 prices of all tickets, added, 10 bytes of the paper, 11 bytes of the tape");
    DarnRoom room = working();
    room.wear(2, 1);
    room.feed(0, 0, 0, 0, 0);
    int[] counts = {2, 2, 2, 3, 4, 2, 1, 14, 48, 42, 5, 20};
    for (int what = 0; what <= 11; what++) due.is("count(" + what + ")", room.count(what), counts[what]);
  }

  private static void countRefuses() {
    due.says("Throws IndexOutOfBoundsException if what is not 0 to 11");
    DarnRoom room = working();
    indexed(room, "count()", 12, room::count);
    DarnRoom nothing = new DarnRoom();
    indexed(nothing, "count() of nothing", 12, nothing::count);
  }

  private static void card() {
    due.says("Throws IndexOutOfBoundsException if there is no such card, or what is not 0 to 2");
    DarnRoom room = working();
    indexed(room, "card(.., 0)", 2, i -> room.card(i, 0));
    indexed(room, "card(1, ..)", 3, i -> room.card(1, i));
    indexed(room, "card(2, ..)", 0, i -> room.card(2, i));
  }

  private static void windAtMost() {
    due.says("Returns how many it has then, at most 999.");
    for (int yards : new int[] {0, 1, 498, 499, 500, 501, 998, 999}) {
      for (int more : new int[] {1, 2, 499, 500}) {
        DarnRoom room = Due.taught("card b ply 1 yards 7 price 1;card c ply 1 yards " + yards + " price 1;");
        due.is("wind(1, " + more + ") of " + yards, room.wind(1, more), Math.min(999, yards + more));
        due.is("card(1, 1)", room.card(1, 1), Math.min(999, yards + more));
        due.is("card(0, 1)", room.card(0, 1), 7);
      }
    }
  }

  private static void windRefuses() {
    due.says("Throws IndexOutOfBoundsException if there is no such card / IllegalArgumentException if yards is not 1 to 500");
    DarnRoom room = working();
    for (int yards : new int[] {0, -1, 501, -500}) due.refuses(room, "wind(0, " + yards + ")", NO_ARGUMENT, () -> room.wind(0, yards));
    for (int far : FAR) {
      if (far < 1 || far > 500) due.refuses(room, "wind(1, " + far + ")", NO_ARGUMENT, () -> room.wind(1, far));
      due.refuses(room, "wind(" + far + ", 1)", NO_INDEX, () -> room.wind(far, 1));
    }
    due.refuses(room, "wind(-1, 1)", NO_INDEX, () -> room.wind(-1, 1));
    due.refuses(room, "wind(2, 1)", NO_INDEX, () -> room.wind(2, 1));
    due.is("wind(1, 1)", room.wind(1, 1), 1);
    due.is("wind(1, 500)", room.wind(1, 500), 501);
  }

  private static void hand() {
    due.says("Throws IndexOutOfBoundsException if there is no such hand, or what is not 0 to 5");
    DarnRoom room = working();
    indexed(room, "hand(.., 0)", 2, i -> room.hand(i, 0));
    indexed(room, "hand(1, ..)", 6, i -> room.hand(1, i));
    indexed(room, "hand(2, ..)", 0, i -> room.hand(2, i));
  }

  private static void handWithout() {
    due.says("2 its ticket, -1 without one, 3 the number of the step there, from 0, -1 without one, 4 cells of this that are not woven yet,"
        + " 0 without one, 5 stitches in all");
    DarnRoom room = Due.taught(WORK);
    int[][] first = {{1, 3, -1, -1, 0, 0}, {1, 3, 0, 0, 1, 3}, {1, 3, -1, -1, 0, 5}};
    int[][] second = {{4, 9, -1, -1, 0, 0}, {4, 9, -1, -1, 0, 0}, {4, 9, 1, 0, 39, 9}};
    for (int hour = 0; hour < 3; hour++) {
      for (int what = 0; what <= 5; what++) {
        due.is("hand(0, " + what + ") in hour " + hour, room.hand(0, what), first[hour][what]);
        due.is("hand(1, " + what + ") in hour " + hour, room.hand(1, what), second[hour][what]);
      }
      room.pass(1);
    }
  }

  private static void handStitches() {
    due.says("5 stitches in all");
    DarnRoom room = Due.taught("card c ply 1 yards 99 price 1;hand h needle 1 pace 4;hand g needle 1 pace 3;jersey j cloth 9 elbows 0;"
        + "jersey k cloth 9 elbows 0;ticket t for j darn 5 by 1 at 0 on 0 with c then darn 2 by 1 at 0 on 0 with c;"
        + "ticket u for j darn 2 by 1 at 0 on 0 with c;ticket v for k darn 1 by 1 at 0 on 0 with c;ticket w for k darn 4 by 1 at 0 on 0 with c;");
    int[][] stitches = {{0, 0}, {4, 1}, {7, 4}, {9, 5}, {9, 5}};
    for (int hour = 0; hour < stitches.length; hour++) {
      for (int h = 0; h < 2; h++) due.is("hand(" + h + ", 5) in hour " + hour, room.hand(h, 5), stitches[hour][h]);
      room.done(3);
      room.pass(1);
    }
    // Another bundle tells other hands, also if they have the same names.
    Due.teach(room, "hand h needle 1 pace 4;");
    due.is("hand(0, 5) of another bundle", room.hand(0, 5), 0);
  }

  private static void cell() {
    due.says("Throws IndexOutOfBoundsException if there is no such jersey, x is not 0 to 7, or y is not 0 to 5");
    DarnRoom room = working();
    indexed(room, "cell(.., 0, 0)", 3, i -> room.cell(i, 0, 0));
    indexed(room, "cell(2, .., 5)", 8, i -> room.cell(2, i, 5));
    indexed(room, "cell(2, 7, ..)", 6, i -> room.cell(2, 7, i));
    indexed(room, "cell(3, .., 0)", 0, i -> room.cell(3, i, 0));
  }

  private static void jersey() {
    due.says("Throws IndexOutOfBoundsException if there is no such jersey, or what is not 0 to 3");
    DarnRoom room = working();
    indexed(room, "jersey(.., 0)", 3, i -> room.jersey(i, 0));
    indexed(room, "jersey(2, ..)", 4, i -> room.jersey(2, i));
    indexed(room, "jersey(3, ..)", 0, i -> room.jersey(3, i));
  }

  private static void jerseyUnderNone() {
    due.says("0 how many holes it has, 1 how thick its thinnest cell is, 2 the hand under which it is, -1 for none, 3 all its cells, added");
    DarnRoom room = working();
    int[][] told = {{0, 5, -1, 250}, {0, 20, 1, 978}, {0, 1, -1, 48}};
    for (int j = 0; j < 3; j++) {
      for (int what = 0; what <= 3; what++) due.is("jersey(" + j + ", " + what + ")", room.jersey(j, what), told[j][what]);
    }
    room.wear(2, 1);
    int[] worn = {48, 0, -1, 0};
    for (int what = 0; what <= 3; what++) due.is("jersey(2, " + what + ")", room.jersey(2, what), worn[what]);
    DarnRoom first = Due.taught(WORK);
    due.is("jersey(0, 2)", first.jersey(0, 2), -1);
    first.pass(1);
    due.is("jersey(0, 2) under the hand 0", first.jersey(0, 2), 0);
  }

  private static void ticket() {
    due.says("Throws IndexOutOfBoundsException if there is no such ticket, or what is not 0 to 7");
    DarnRoom room = working();
    indexed(room, "ticket(.., 0)", 4, i -> room.ticket(i, 0));
    indexed(room, "ticket(3, ..)", 8, i -> room.ticket(3, i));
    indexed(room, "ticket(4, ..)", 0, i -> room.ticket(4, i));
  }

  private static void ticketWithout() {
    due.says("1 its hand, -1 if it is not at one, ... 4 the hour in which it was done, -1 if it is not, 5 its place among those that wait, in the"
        + " order, from 0, -1 if it does not");
    DarnRoom first = Due.taught(WORK);
    int[][] atFirst = {{0, -1, 0, 0, -1, 0, 0, 2}, {0, -1, 0, 0, -1, 1, 1, 1}, {0, -1, 0, 0, -1, 2, 2, 1}, {0, -1, 0, 0, -1, 3, 2, 1}};
    int[][] behind = {{2, -1, 5, 15, 1, -1, 0, 2}, {1, 1, 9, 27, -1, -1, 1, 1}, {0, -1, 0, 0, -1, 0, 2, 1}, {0, -1, 0, 0, -1, 1, 2, 1}};
    DarnRoom room = working();
    for (int t = 0; t < 4; t++) {
      for (int what = 0; what <= 7; what++) {
        due.is("ticket(" + t + ", " + what + ") at first", first.ticket(t, what), atFirst[t][what]);
        due.is("ticket(" + t + ", " + what + ") behind two hours", room.ticket(t, what), behind[t][what]);
      }
    }
    DarnRoom soon = Due.taught("card c ply 1 yards 9 price 1;hand h needle 1 pace 1;jersey j cloth 1 elbows 0;"
        + "ticket t for j darn 1 by 1 at 0 on 0 with c;");
    soon.pass(1);
    due.is("ticket(0, 4), done in hour 0", soon.ticket(0, 4), 0);
  }

  private static void hurry() {
    due.says("Puts a ticket that waits ahead of all others in the order. / Returns at which place it was among those that wait, from 0.");
    StringBuilder text = new StringBuilder(Rooms.THINGS);
    for (int i = 0; i < 12; i++) text.append("ticket t" + i + " for j darn 1 by 1 at 0 on 0 with c;");
    for (int t = 0; t < 12; t++) {
      DarnRoom room = Due.taught(text.toString());
      due.is("hurry(" + t + ")", room.hurry(t), t);
      for (int i = 0; i < 12; i++) due.is("ticket(" + i + ", 5)", room.ticket(i, 5), i == t ? 0 : i < t ? i + 1 : i);
      due.is("hurry(" + t + ") again", room.hurry(t), 0);
      due.is("hurry(11)", room.hurry(11), t == 11 ? 0 : 11);
      room.pass(1);
      due.is("ticket(11, 4)", room.ticket(11, 4), 0);
      due.is("hurry() of the one behind", room.hurry(t == 11 ? 0 : t), 0);
      due.is("hurry() of the last one", room.hurry(t == 10 ? 9 : 10), 10);
    }
  }

  private static void hurryRefuses() {
    due.says("Throws IndexOutOfBoundsException if there is no such ticket / IllegalStateException if it does not wait");
    DarnRoom room = working();
    due.refuses(room, "hurry(0), done", NO_STATE, () -> room.hurry(0));
    due.refuses(room, "hurry(1), at a hand", NO_STATE, () -> room.hurry(1));
    due.is("hurry(3)", room.hurry(3), 1);
    due.is("hurry(2)", room.hurry(2), 1);
    due.refuses(room, "hurry(-1)", NO_INDEX, () -> room.hurry(-1));
    due.refuses(room, "hurry(4)", NO_INDEX, () -> room.hurry(4));
    for (int far : FAR) due.refuses(room, "hurry(" + far + ")", NO_INDEX, () -> room.hurry(far));
  }

  private static void wear() {
    due.says("Wears a jersey, as step 3 of an hour does. / Returns how many holes it has then.");
    for (int times = 1; times <= 20; times++) {
      DarnRoom room = Due.taught("jersey i cloth 20 elbows 0;jersey j cloth 20 elbows 0;");
      due.is("wear(1, " + times + ")", room.wear(1, times), times == 20 ? 48 : 0);
      due.is("cell(1, 0, 0)", room.cell(1, 0, 0), 20 - times);
      due.is("jersey(0, 3)", room.jersey(0, 3), 960);
      due.is("count(0)", room.count(0), 0);
    }
    DarnRoom worn = Due.taught("jersey j cloth 7 elbows 3;");
    DarnRoom passed = Due.taught("jersey j cloth 7 elbows 3;");
    for (int i = 0; i < 5; i++) {
      int holes = worn.wear(0, 1);
      passed.pass(12);
      due.is("wear(0, 1)", holes, passed.jersey(0, 0));
      for (int cell = 0; cell < 48; cell++) due.is("cell " + cell, worn.cell(0, cell % 8, cell / 8), passed.cell(0, cell % 8, cell / 8));
    }
  }

  private static void wearRefuses() {
    due.says("Throws IllegalArgumentException if times is not 1 to 20 / IllegalStateException if it is under a hand");
    DarnRoom room = working();
    for (int times : new int[] {0, -1, 21, -20}) due.refuses(room, "wear(0, " + times + ")", NO_ARGUMENT, () -> room.wear(0, times));
    for (int far : FAR) {
      due.refuses(room, "wear(0, " + far + ")", NO_ARGUMENT, () -> room.wear(0, far));
      due.refuses(room, "wear(" + far + ", 1)", NO_INDEX, () -> room.wear(far, 1));
    }
    due.refuses(room, "wear(3, 1)", NO_INDEX, () -> room.wear(3, 1));
    due.refuses(room, "wear(-1, 1)", NO_INDEX, () -> room.wear(-1, 1));
    due.refuses(room, "wear(1, 1), under a hand", NO_STATE, () -> room.wear(1, 1));
    due.refuses(room, "wear(1, 20), under a hand", NO_STATE, () -> room.wear(1, 20));
    DarnRoom four = Due.taught("card c ply 1 yards 0 price 1;hand a needle 1 pace 1;hand b needle 1 pace 1;hand d needle 1 pace 1;"
        + "hand e needle 1 pace 1;jersey j cloth 9 elbows 0;jersey k cloth 9 elbows 0;jersey l cloth 9 elbows 0;jersey m cloth 9 elbows 0;"
        + "ticket t for j " + Rooms.STEP + ";ticket u for k " + Rooms.STEP + ";ticket v for l " + Rooms.STEP + ";ticket w for m "
        + Rooms.STEP + ";");
    four.pass(1);
    for (int j = 0; j < 4; j++) {
      int under = j;
      due.is("jersey(" + j + ", 2)", four.jersey(j, 2), j);
      due.refuses(four, "wear(" + j + ", 1) under the hand " + j, NO_STATE, () -> four.wear(under, 1));
    }
    due.is("wear(0, 1), its ticket is done", room.wear(0, 1), 0);
    due.is("wear(2, 20), its tickets wait", room.wear(2, 20), 48);
  }

  private static void tear() {
    due.says("holes that hang together by cells beside each other; 0 without a hole");
    DarnRoom room = Due.taught("jersey j cloth 2 elbows 0;jersey k cloth 4 elbows 3;");
    due.is("tear(0)", room.tear(0), 0);
    room.wear(0, 1);
    due.is("tear(0) of 1", room.tear(0), 0);
    room.wear(0, 1);
    due.is("tear(0) of all", room.tear(0), 48);
    room.wear(1, 1);
    due.is("tear(1) of two elbows", room.tear(1), 4);
    for (int at = 0; at < 48; at++) {
      char[] signs = Rooms.times(48, ".").toCharArray();
      signs[at] = 'o';
      due.is("tear(0) of a hole at " + at, cloth(signs).tear(0), 1);
    }
    due.is("tear(0) of a row", HolesTest.cloth("........", "oooooooo").tear(0), 8);
    due.is("tear(0) of a column", HolesTest.cloth("..o.....", "..o.....", "..o.....", "..o.....", "..o.....", "..o.....").tear(0), 6);
    due.is("tear(0) of corners", HolesTest.cloth("o......o", "........", "........", "........", "........", "o......o").tear(0), 1);
    indexed(room, "tear()", 2, room::tear);
  }

  private static DarnRoom cloth(char[] signs) {
    String[] rows = new String[6];
    for (int y = 0; y < 6; y++) rows[y] = new String(signs, 8 * y, 8);
    return HolesTest.cloth(rows);
  }

  private static void patch() {
    due.says("Returns 1000 * x + 100 * y + 10 * wide + high of the least rectangle that covers the greatest tear; -1 without a hole.");
    DarnRoom room = Due.taught("jersey j cloth 2 elbows 0;jersey k cloth 4 elbows 3;");
    due.is("patch(0)", room.patch(0), -1);
    room.wear(0, 1);
    due.is("patch(0) of 1", room.patch(0), -1);
    room.wear(0, 1);
    due.is("patch(0) of all", room.patch(0), 86);
    for (int at = 0; at < 48; at++) {
      char[] signs = Rooms.times(48, ".").toCharArray();
      signs[at] = 'o';
      due.is("patch(0) of a hole at " + at, cloth(signs).patch(0), 1000 * (at % 8) + 100 * (at / 8) + 11);
    }
    due.is("patch(0) of the last row", HolesTest.cloth("........", "........", "........", "........", "........", "oooooooo").patch(0), 581);
    due.is("patch(0) of the last column", HolesTest.cloth(".......o", ".......o", ".......o", ".......o", ".......o", ".......o").patch(0), 7016);
    due.is("patch(0) of a corner piece", HolesTest.cloth("......oo", ".......o").patch(0), 6022);
    indexed(room, "patch()", 2, room::patch);
  }

  private static void patchOfSeveral() {
    due.says("(of several as great that with the first hole, row by row)");
    due.is("patch(0), the first one right", HolesTest.cloth("......oo", "oo......").patch(0), 6021);
    due.is("patch(0), the first one left", HolesTest.cloth("oo....oo").patch(0), 21);
    due.is("patch(0), a higher one", HolesTest.cloth("....o...", "oo..o...").patch(0), 4012);
    due.is("patch(0), the second one is greater", HolesTest.cloth("......oo", "ooo.....").patch(0), 131);
    due.is("patch(0), the third one is greater", HolesTest.cloth("oo....oo", "........", "ooo.....").patch(0), 231);
    due.is("patch(0), the last one is as great", HolesTest.cloth("ooo.....", "........", "oo...ooo").patch(0), 31);
    // The first hole of the one below stands left of the first one of the other, but in a later row.
    due.is("patch(0), its first hole is above", HolesTest.cloth(".......o", "o......o", "o.......").patch(0), 7012);
    due.is("patch(0), the second one needs less", HolesTest.cloth("oo......", "o.......", ".....ooo").patch(0), 22);
    due.is("patch(0), the second one needs more", HolesTest.cloth("ooo.....", "......oo", "......o.").patch(0), 31);
  }

  private static void pass() {
    due.says("Lets hours go by. / Returns how many stitches are made in them.");
    String work = "card c ply 1 yards 999 price 1;hand h needle 1 pace 1;jersey j cloth 20 elbows 0;ticket t for j "
        + Rooms.times(5, "darn 8 by 6 at 0 on 0 with c then ") + "darn 8 by 6 at 0 on 0 with c;";
    for (int hours : new int[] {1, 2, 47, 48, 49, 119, 120}) {
      DarnRoom room = Due.taught(work);
      due.is("pass(" + hours + ")", room.pass(hours), hours);
      due.is("count(0)", room.count(0), hours);
      due.is("count(7)", room.count(7), hours);
    }
    DarnRoom room = Due.taught(work);
    due.is("pass(120)", room.pass(120), 120);
    due.is("pass(120)", room.pass(120), 120);
    due.is("pass(120), the last 48", room.pass(120), 48);
    due.is("pass(1)", room.pass(1), 0);
    due.is("ticket(0, 4)", room.ticket(0, 4), 287);
  }

  private static void passRefuses() {
    due.says("Throws IllegalArgumentException if hours is not 1 to 120");
    DarnRoom room = working();
    for (int hours : new int[] {0, -1, -120, 121, 122}) due.refuses(room, "pass(" + hours + ")", NO_ARGUMENT, () -> room.pass(hours));
    for (int far : FAR) due.refuses(room, "pass(" + far + ")", NO_ARGUMENT, () -> room.pass(far));
    due.is("pass(1)", room.pass(1), 9);
    room.pass(120);
    due.is("count(0)", room.count(0), 123);
  }

  private static void firstNamedIsThrown() {
    due.says("If several exceptions apply, the one that is named first is thrown.");
    DarnRoom room = working();
    for (int wrong : new int[] {-1, 5, Integer.MIN_VALUE, Integer.MAX_VALUE}) {
      for (int argument : new int[] {0, -1, 501, Integer.MIN_VALUE}) {
        due.refuses(room, "wind(" + wrong + ", " + argument + ")", NO_INDEX, () -> room.wind(wrong, argument));
        due.refuses(room, "wear(" + wrong + ", " + argument + ")", NO_INDEX, () -> room.wear(wrong, argument));
        due.refuses(room, "foresee(" + argument + ", " + wrong + ")", NO_ARGUMENT, () -> room.foresee(argument, wrong));
      }
    }
    for (int times : new int[] {0, -1, 21}) due.refuses(room, "wear(1, " + times + ") under a hand", NO_ARGUMENT, () -> room.wear(1, times));
    due.refuses(room, "wear(3, 1)", NO_INDEX, () -> room.wear(3, 1));
    due.refuses(room, "foresee(121, 4)", NO_ARGUMENT, () -> room.foresee(121, 4));
    due.refuses(room, "foresee(0, -1)", NO_ARGUMENT, () -> room.foresee(0, -1));
  }

  /** Two rooms go on in the same way, though calls of one of them were refused in each hour. */
  private static void nothingChanges() {
    due.says("A method that throws an exception changes nothing.");
    DarnRoom room = working();
    DarnRoom plain = working();
    for (int i = 0; i < 7; i++) {
      due.refuses(room, "wind(0, 501)", NO_ARGUMENT, () -> room.wind(0, 501));
      due.refuses(room, "wind(2, 500)", NO_INDEX, () -> room.wind(2, 500));
      due.refuses(room, "hurry(0)", NO_STATE, () -> room.hurry(0));
      due.refuses(room, "hurry(4)", NO_INDEX, () -> room.hurry(4));
      due.refuses(room, "wear(0, 21)", NO_ARGUMENT, () -> room.wear(0, 21));
      due.refuses(room, "pass(121)", NO_ARGUMENT, () -> room.pass(121));
      due.refuses(room, "foresee(120, 4)", NO_INDEX, () -> room.foresee(120, 4));
      due.refuses(room, "foresee(121, 0)", NO_ARGUMENT, () -> room.foresee(121, 0));
      due.refuses(room, "advise(81)", NO_ARGUMENT, () -> room.advise(81));
      due.is("pass(" + (i % 3 + 1) + ")", room.pass(i % 3 + 1), plain.pass(i % 3 + 1));
      due.is("digest()", room.digest(), plain.digest());
    }
    Due.feed(room, behindBlanks());
    due.refuses(room, "feed() of a full tape", NO_STATE, () -> room.feed(-1, -1, -1, -1, -1));
    due.refuses(room, "trim(2001)", NO_ARGUMENT, () -> room.trim(2001));
    due.refuses(room, "trim(-1)", NO_ARGUMENT, () -> room.trim(-1));
    due.is("teach() of the same tape", room.teach(), 0);
    due.is("count(4)", room.count(4), 4);
  }

  private static String behindBlanks() {
    return Rooms.times(2000 - WORK.length(), "\n") + WORK;
  }
}
