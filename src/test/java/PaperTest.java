/** Promises 22 to 25: byteAt, clear, mean, digest. */
public final class PaperTest {
  private static final String THINGS = "card c ply 1 yards 999 price 3;card d ply 9 yards 999 price 20;hand h needle 1 pace 9;"
      + "jersey j cloth 9 elbows 0;";
  private static final Class<IndexOutOfBoundsException> NO_INDEX = IndexOutOfBoundsException.class;
  private static final Due due = new Due();

  public static void main(String[] args) {
    empty();
    slips();
    slipsOfAnHour();
    clearing();
    filling();
    mean();
    meanOfTaught();
    digest();
    due.end("PaperTest");
  }

  private static void reads(DarnRoom room, String want) {
    String paper = Due.paper(room);
    due.is("count(10)", room.count(10), want.length());
    due.is("the paper is " + paper + ", due is " + want, paper.equals(want) ? 1 : 0, 1);
    due.refuses(room, "byteAt behind the paper", NO_INDEX, () -> room.byteAt(want.length()));
    due.refuses(room, "byteAt(-1)", NO_INDEX, () -> room.byteAt(-1));
  }

  private static void empty() {
    DarnRoom room = new DarnRoom();
    reads(room, "");
    due.refuses(room, "byteAt(least)", NO_INDEX, () -> room.byteAt(Integer.MIN_VALUE));
    due.refuses(room, "byteAt(greatest)", NO_INDEX, () -> room.byteAt(Integer.MAX_VALUE));
    due.is("clear()", room.clear(), 0);
    due.isD("mean()", room.mean(), 0.0);
  }

  private static void slips() {
    DarnRoom room = Due.taught(THINGS + "ticket azazazaz09 for j darn 3 by 1 at 0 on 0 with c;"
        + "ticket z for j darn 0 by 1 at 0 on 0 with c;ticket zero for j darn 8 by 6 at 0 on 0 with d;"
        + "ticket m1n for j darn 3 by 1 at 0 on 0 with d then darn 1 by 1 at 0 on 0 with c;");
    room.pass(1);
    reads(room, "azazazaz09 9\n");
    due.is("byteAt(0)", room.byteAt(0), 97);
    due.is("byteAt(8)", room.byteAt(8), 48);
    due.is("byteAt(9)", room.byteAt(9), 57);
    due.is("byteAt(10)", room.byteAt(10), 32);
    due.is("byteAt(11)", room.byteAt(11), 57);
    due.is("byteAt(12)", room.byteAt(12), 10);
    room.pass(1);
    reads(room, "azazazaz09 9\nz 0\n");
    room.pass(5);
    reads(room, "azazazaz09 9\nz 0\n");
    room.pass(1);
    reads(room, "azazazaz09 9\nz 0\nzero 960\n");
    room.pass(1);
    reads(room, "azazazaz09 9\nz 0\nzero 960\nm1n 63\n");
  }

  private static void slipsOfAnHour() {
    DarnRoom room = Due.taught(THINGS + "hand g needle 1 pace 9;jersey k cloth 1 elbows 0;ticket b for j darn 2 by 1 at 0 on 0 with c;"
        + "ticket a for k darn 1 by 1 at 0 on 0 with c;");
    room.hurry(1);
    room.pass(1);
    reads(room, "a 3\nb 6\n");
  }

  private static void clearing() {
    DarnRoom room = Due.taught(THINGS + "ticket a for j darn 3 by 1 at 0 on 0 with c;ticket b for j darn 1 by 1 at 0 on 0 with d;");
    room.pass(1);
    due.is("clear()", room.clear(), 4);
    reads(room, "");
    due.is("clear() again", room.clear(), 0);
    due.is("ticket(0, 0)", room.ticket(0, 0), 2);
    due.isD("mean()", room.mean(), 9.0);
    room.pass(1);
    reads(room, "b 20\n");
    due.is("clear() of b", room.clear(), 5);
  }

  /** Writes a slip of each name and the price 3. */
  private static void write(DarnRoom room, String... names) {
    StringBuilder bundle = new StringBuilder(THINGS);
    for (String name : names) bundle.append("ticket " + name + " for j darn 1 by 1 at 0 on 0 with c;");
    due.is("teach()", Due.teach(room, bundle.toString()), 0);
    due.is("pass()", room.pass(names.length), names.length);
  }

  /** A paper with 390 bytes; an object is made for each look at it, as one is used for 512 calls at most. */
  private static DarnRoom filled(StringBuilder want) {
    DarnRoom room = new DarnRoom();
    for (int i = 0; i < 3; i++) {
      String[] names = new String[10];
      for (int n = 0; n < 10; n++) names[n] = "abcdefgh" + i + n;
      write(room, names);
      for (String name : names) want.append(name + " 3\n");
    }
    return room;
  }

  private static void filling() {
    StringBuilder want = new StringBuilder();
    DarnRoom room = filled(want);
    due.holds("the paper is " + want, Due.paper(room).equals(want.toString()));
    tail("seven77 3\n", "toolonga", "seven77", "x");
    tail("ab 3\ny 3\n", "toolonga", "ab", "y", "x");
    tail("inebyte 3\n", "inebyte");
    tail("", "tenbytes", "ninebytes");
    DarnRoom full = filled(new StringBuilder());
    write(full, "seven77");
    due.is("byteAt(399)", full.byteAt(399), 10);
    due.is("clear() of the full paper", full.clear(), 400);
    write(full, "x");
    reads(full, "x 3\n");
  }

  /** What stands behind the first 390 bytes, if slips of some names are to be written there. */
  private static void tail(String want, String... names) {
    DarnRoom room = filled(new StringBuilder());
    write(room, names);
    due.is("count(10)", room.count(10), 390 + want.length());
    for (int i = 0; i < want.length(); i++) due.is("byteAt(" + (390 + i) + ")", room.byteAt(390 + i), want.charAt(i));
    due.refuses(room, "byteAt behind the paper", NO_INDEX, () -> room.byteAt(390 + want.length()));
  }

  private static void mean() {
    DarnRoom room = Due.taught(THINGS + "ticket a for j darn 3 by 1 at 0 on 0 with c;ticket b for j darn 1 by 1 at 0 on 0 with d;"
        + "ticket e for j darn 0 by 1 at 0 on 0 with d;ticket f for j darn 8 by 6 at 0 on 0 with d;");
    due.isD("mean() of none", room.mean(), 0.0);
    double[] means = {9.0, 14.5, 29.0 / 3, 29.0 / 3, 29.0 / 3, 29.0 / 3, 29.0 / 3, 29.0 / 3, 989.0 / 4};
    for (int i = 0; i < means.length; i++) {
      room.pass(1);
      due.isD("mean() in hour " + (i + 1), room.mean(), means[i]);
    }
  }

  private static void meanOfTaught() {
    DarnRoom room = Due.taught(THINGS + "ticket a for j darn 3 by 1 at 0 on 0 with c;");
    room.pass(1);
    due.is("teach() of nothing", room.teach(), 0);
    due.isD("mean() behind it", room.mean(), 0.0);
    reads(room, "a 9\n");
  }

  private static void digest() {
    for (int hours = 0; hours <= 30; hours++) {
      DarnRoom room = Due.taught(THINGS + "hand g needle 2 pace 1;jersey k cloth 2 elbows 1;jersey l cloth 1 elbows 0;"
          + "ticket a for j darn 3 by 1 at 0 on 0 with c;ticket b for k darn 8 by 6 at 0 on 0 with d then darn 1 by 1 at 0 on 0 with c;"
          + "ticket e for j when hour > 20 darn 2 by 2 at 0 on 0 with d;");
      if (hours > 0) room.pass(hours);
      if (hours >= 5) room.feed(1, 2, 3, 4, 5);
      if (hours >= 25) room.clear();
      due.is("digest() in hour " + hours, room.digest(), digestOf(room));
    }
    due.is("a digest by hand", Due.taught("").digest(), 751L * 31 * 31 * 31 * 31 * 31 * 31 * 31 * 31 * 31 * 31 * 31 * 31);
  }

  private static long digestOf(DarnRoom room) {
    long d = 751;
    for (int what = 0; what < 12; what++) d = d * 31 + room.count(what);
    for (int i = 0; i < room.count(1); i++) {
      for (int what = 0; what < 3; what++) d = d * 31 + room.card(i, what);
    }
    for (int i = 0; i < room.count(2); i++) {
      for (int what = 0; what < 6; what++) d = d * 31 + room.hand(i, what);
    }
    for (int i = 0; i < room.count(3); i++) {
      for (int what = 0; what < 4; what++) d = d * 31 + room.jersey(i, what);
      d = d * 31 + room.tear(i);
      for (int y = 0; y < 6; y++) {
        for (int x = 0; x < 8; x++) d = d * 31 + room.cell(i, x, y);
      }
    }
    for (int i = 0; i < room.count(4); i++) {
      for (int what = 0; what < 8; what++) d = d * 31 + room.ticket(i, what);
    }
    for (int i = 0; i < room.count(10); i++) d = d * 31 + room.byteAt(i);
    return d;
  }
}
