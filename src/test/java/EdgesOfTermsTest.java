/** The edges that "What it is" and the chapter "Terms" name, a function for each sentence. */
public final class EdgesOfTermsTest {
  private static final int LEAST = Integer.MIN_VALUE;
  private static final int MOST = Integer.MAX_VALUE;
  private static final Due due = new Due();

  public static void main(String[] args) {
    fiveHundredTwelveCalls();
    sumsWrapAround();
    differencesWrapAround();
    productsWrapAround();
    divisionIsCut();
    divisionByNothing();
    leastByMinusOne();
    positionsFromNothing();
    hoursFromNothing();
    due.end("EdgesOfTermsTest");
  }

  /** A sum has to be this number in a test, and in a step. */
  private static void value(String sum, int want) {
    String number = Rooms.sumOf(want);
    due.holds(sum + " = " + want, Rooms.holds(sum + " = " + number));
    due.holds("not " + sum + " = " + want + " + 1", !Rooms.holds(sum + " = " + number + " + 1"));
    due.holds(sum + " < 0 as " + want + " is", Rooms.holds(sum + " < 0") == want < 0);
    due.holds(sum + " > 0 as " + want + " is", Rooms.holds(sum + " > 0") == want > 0);
    DarnRoom room = Due.taught(Rooms.THINGS + "ticket t for j darn 1 by 1 at " + sum + " - " + number + " + 3 on 4 with c;");
    room.pass(1);
    due.is("the cell darned at " + sum + " - " + want + " + 3", room.cell(0, 3, 4), 3);
  }

  private static void fiveHundredTwelveCalls() {
    due.says("An object is used for at most 512 calls after it has been made");
    DarnRoom passing = new DarnRoom();
    for (int i = 1; i <= 511; i++) passing.pass(120);
    due.is("call 512, count(0)", passing.count(0), 511 * 120);
    DarnRoom teaching = new DarnRoom();
    for (int i = 1; i <= 170; i++) {
      due.is("a feed of 512 calls", teaching.feed(0x68616e64, 0x20682020, 0x6e656564, 0x6c652031, 0x20706163), 20);
      due.is("another one", teaching.feed(0x6520323b, 0x20202020, 0x20202020, 0x20202020, 0x20202020), 40);
      due.is("a teach() of 512 calls", teaching.teach(), 0);
    }
    due.is("call 511", teaching.count(2), 1);
    due.is("call 512", teaching.hand(0, 1), 2);
  }

  private static void sumsWrapAround() {
    due.says("sums, differences and products of the language wrap around in 32 bits");
    String most = Rooms.sumOf(MOST);
    String least = Rooms.sumOf(LEAST);
    value(Rooms.sumOf(MOST - 1) + " + 1", MOST);
    value(most + " + 1", LEAST);
    value(most + " + " + most, -2);
    value(Rooms.sumOf(LEAST + 1) + " + " + Rooms.sumOf(-1), LEAST);
    value(least + " + " + Rooms.sumOf(-1), MOST);
    value(least + " + " + least, 0);
    value(least + " + " + most, -1);
  }

  private static void differencesWrapAround() {
    due.says("sums, differences and products of the language wrap around in 32 bits");
    String most = Rooms.sumOf(MOST);
    String least = Rooms.sumOf(LEAST);
    value(Rooms.sumOf(LEAST + 1) + " - 1", LEAST);
    value(least + " - 1", MOST);
    value(Rooms.sumOf(MOST - 1) + " - " + Rooms.sumOf(-1), MOST);
    value(most + " - " + Rooms.sumOf(-1), LEAST);
    value("0 - " + Rooms.sumOf(LEAST + 1), MOST);
    value("0 - " + least, LEAST);
    value("-" + most, LEAST + 1);
    value("-" + Rooms.sumOf(LEAST + 1), MOST);
    value("-" + least, LEAST);
    value("-0", 0);
  }

  private static void productsWrapAround() {
    due.says("sums, differences and products of the language wrap around in 32 bits");
    value("46340 * 46340", 2147395600);
    value("46341 * 46341", -2147479015);
    value("65536 * 32767", 2147418112);
    value("65536 * 32768", LEAST);
    value("65536 * 65536", 0);
    value("65536 * 65537", 65536);
    value("999999 * 999999", (int) (999999L * 999999L));
    value(Rooms.sumOf(LEAST) + " * -1", LEAST);
    value(Rooms.sumOf(MOST) + " * -1", LEAST + 1);
    value(Rooms.sumOf(MOST) + " * " + Rooms.sumOf(MOST), 1);
    value(Rooms.sumOf(LEAST) + " * " + Rooms.sumOf(LEAST), 0);
  }

  private static void divisionIsCut() {
    due.says("/ is cut towards 0");
    value("6 / 3", 2);
    value("7 / 3", 2);
    value("8 / 3", 2);
    value("9 / 3", 3);
    value("-8 / 3", -2);
    value("-9 / 3", -3);
    value("8 / -3", -2);
    value("9 / -3", -3);
    value("-8 / -3", 2);
    value("-9 / -3", 3);
    value("2 / 3", 0);
    value("-2 / 3", 0);
    value("2 / -3", 0);
    value("0 / 3", 0);
    value(Rooms.sumOf(MOST) + " / 2", 1073741823);
    value(Rooms.sumOf(LEAST + 1) + " / 2", -1073741823);
    value(Rooms.sumOf(LEAST) + " / 2", -1073741824);
    value(Rooms.sumOf(MOST) + " / " + Rooms.sumOf(LEAST), 0);
    value(Rooms.sumOf(LEAST) + " / " + Rooms.sumOf(MOST), -1);
  }

  private static void divisionByNothing() {
    due.says("gives 0 with 0 on the right side");
    value("1 / 0", 0);
    value("-1 / 0", 0);
    value("0 / 0", 0);
    value("999999 / 0", 0);
    value(Rooms.sumOf(MOST) + " / 0", 0);
    value(Rooms.sumOf(LEAST) + " / 0", 0);
    value("7 / (1 - 1)", 0);
    value("7 / (1 / 2) + 5", 5);
    value("7 / hour", 0);
    value("7 / 1", 7);
    value("7 / -1", -7);
  }

  private static void leastByMinusOne() {
    due.says("-2147483648 / -1 gives -2147483648");
    value(Rooms.sumOf(LEAST) + " / -1", LEAST);
    value(Rooms.sumOf(LEAST + 1) + " / -1", MOST);
    value(Rooms.sumOf(LEAST) + " / 1", LEAST);
    value(Rooms.sumOf(MOST) + " / -1", LEAST + 1);
  }

  private static void positionsFromNothing() {
    due.says("Positions of the tape are counted from 0, in bytes.");
    for (int at = 0; at < 5; at++) {
      DarnRoom room = new DarnRoom();
      due.is("teach() behind blanks", Due.teach(room, Rooms.times(at, " ") + "!"), 1);
      due.is("errorAt()", room.errorAt(), at);
    }
    DarnRoom room = new DarnRoom();
    due.is("teach() of high bytes", Due.teach(room, "\n\n\u00ff\u00fe"), 1);
    due.is("errorAt() of the first one", room.errorAt(), 2);
  }

  private static void hoursFromNothing() {
    due.says("Time is told in hours, from 0.");
    DarnRoom room = new DarnRoom();
    due.is("count(0)", room.count(0), 0);
    due.holds("hour = 0 in the first hour", Rooms.holds("hour = 0"));
    due.holds("not hour = 1 in the first hour", !Rooms.holds("hour = 1"));
    room.pass(1);
    due.is("count(0) behind an hour", room.count(0), 1);
  }
}
