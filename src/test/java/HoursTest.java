/** Promise 17: pass, and with it how hands take tickets, weave, end steps and tickets, and how jerseys are worn. */
public final class HoursTest {
  private static final Due due = new Due();

  public static void main(String[] args) {
    refused();
    weavingOrder();
    clipped();
    notWrapped();
    thickAtMost();
    stepsWithoutCells();
    behindTheLastStitch();
    woolEnds();
    woolShared();
    oneTicketAnHour();
    jerseysUnderHands();
    testsAsItWaits();
    handsBehindEachOther();
    numbersAsStepsBegin();
    wornHours();
    wornUnderHands();
    due.end("HoursTest");
  }

  private static void ticketTells(DarnRoom room, int ticket, int what, int want) {
    due.is("ticket(" + ticket + ", " + what + ") in hour " + room.count(0), room.ticket(ticket, what), want);
  }

  private static void refused() {
    DarnRoom room = Due.taught("jersey j cloth 9 elbows 0;");
    for (int hours : new int[] {0, -1, 121, Integer.MIN_VALUE, Integer.MAX_VALUE}) {
      due.refuses(room, "pass(" + hours + ")", IllegalArgumentException.class, () -> room.pass(hours));
    }
    due.is("pass(120)", room.pass(120), 0);
    due.is("count(0)", room.count(0), 120);
    due.is("pass(1)", room.pass(1), 0);
    due.is("count(0)", room.count(0), 121);
  }

  /** Weaves a step stitch by stitch, and looks at which cell gets thicker by each; cells are told as 10 * x + y. */
  private static void woven(int needle, String step, int... cells) {
    DarnRoom room = Due.taught("card c ply 2 yards 99 price 1;hand h needle " + needle + " pace 1;jersey j cloth 20 elbows 0;"
        + "ticket t for j darn " + step + " with c;");
    for (int i = 0; i < cells.length; i++) {
      int before = room.cell(0, cells[i] / 10, cells[i] % 10);
      due.is(step + ", needle " + needle + ", stitch " + i, room.pass(1), 1);
      due.is(step + ", needle " + needle + ", cell " + cells[i], room.cell(0, cells[i] / 10, cells[i] % 10), before + 2);
      due.is("cells left", room.hand(0, 4), i + 1 < cells.length ? cells.length - 1 - i : 0);
    }
    ticketTells(room, 0, 0, 2);
    ticketTells(room, 0, 2, cells.length);
  }

  private static void weavingOrder() {
    woven(1, "3 by 2 at 0 on 0", 0, 20, 11, 10, 1, 21);
    woven(1, "2 by 2 at 5 on 3", 53, 64, 63, 54);
    woven(2, "4 by 2 at 1 on 0", 10, 40, 21, 31, 20, 30, 11, 41);
    woven(3, "4 by 2 at 2 on 4", 24, 35, 45, 55, 34, 44, 54, 25);
    woven(4, "3 by 2 at 3 on 1", 41, 51, 32, 31, 42, 52);
    woven(4, "1 by 6 at 7 on 0", 71, 73, 75, 70, 72, 74);
  }

  /** How many cells a step of a ticket has. */
  private static void stepOf(String step, int cells) {
    DarnRoom room = Due.taught("card c ply 1 yards 0 price 1;hand h needle 1 pace 1;jersey j cloth 20 elbows 0;"
        + "ticket t for j darn " + step + " with c;");
    room.pass(1);
    due.is("cells of " + step, room.hand(0, 4), cells);
    ticketTells(room, 0, 0, cells == 0 ? 2 : 1);
  }

  private static void clipped() {
    stepOf("8 by 6 at 0 on 0", 48);
    stepOf("99 by 99 at 0 on 0", 48);
    stepOf("3 by 2 at 6 on 5", 2);
    stepOf("3 by 2 at -2 on -1", 1);
    stepOf("3 by 2 at -3 on 0", 0);
    stepOf("3 by 2 at 0 on -2", 0);
    stepOf("3 by 2 at 8 on 0", 0);
    stepOf("3 by 2 at 0 on 6", 0);
    stepOf("1 by 1 at 7 on 5", 1);
    stepOf("0 by 6 at 0 on 0", 0);
    stepOf("8 by 0 at 0 on 0", 0);
    stepOf("-8 by 6 at 7 on 0", 0);
    stepOf("8 by -6 at 0 on 5", 0);
    stepOf("-8 by -6 at 7 on 5", 0);
  }

  private static void notWrapped() {
    String least = "32768 * 65536";
    String most = "(32768 * 65536 - 1)";
    stepOf(most + " by 1 at 5 on 0", 3);
    stepOf(most + " by " + most + " at 0 on 0", 48);
    stepOf(most + " by 1 at " + least + " on 0", 0);
    stepOf(most + " by 1 at -" + most + " on 0", 0);
    stepOf(most + " by 1 at 7 - " + most + " on 0", 7);
    stepOf("1 by " + most + " at 0 on 4", 2);
    stepOf("1 by " + most + " at 0 on " + least, 0);
    stepOf("1 by " + most + " at 0 on 3 - " + most, 3);
    stepOf("8 by 1 at " + most + " on 0", 0);
    stepOf(least + " by 1 at 0 on 0", 0);
    stepOf("8 by " + least + " at 0 on 0", 0);
  }

  private static void thickAtMost() {
    DarnRoom room = Due.taught("card c ply 9 yards 5 price 4;hand h needle 1 pace 1;jersey j cloth 12 elbows 0;"
        + "ticket t for j darn 1 by 1 at 3 on 3 with c then darn 1 by 1 at 3 on 3 with c"
        + " then darn 1 by 1 at 3 on 3 with c then darn 1 by 1 at 3 on 3 with c;");
    int[] thick = {21, 30, 30, 30};
    for (int i = 0; i < 4; i++) {
      room.pass(1);
      due.is("cell(0, 3, 3)", room.cell(0, 3, 3), thick[i]);
      due.is("card(0, 1)", room.card(0, 1), 4 - i);
      due.is("ticket(0, 3)", room.ticket(0, 3), 4 * i + 4);
    }
  }

  private static void stepsWithoutCells() {
    DarnRoom room = Due.taught("card c ply 1 yards 0 price 1;hand h needle 1 pace 1;jersey j cloth 5 elbows 0;"
        + "ticket t for j darn 0 by 1 at 0 on 0 with c then darn 1 by 1 at 8 on 0 with c;"
        + "ticket u for j darn 0 by 1 at 0 on 0 with c;");
    due.is("pass(1)", room.pass(1), 0);
    ticketTells(room, 0, 0, 2);
    ticketTells(room, 0, 4, 0);
    ticketTells(room, 1, 0, 0);
    due.is("hand(0, 2)", room.hand(0, 2), -1);
    due.is("hand(0, 5)", room.hand(0, 5), 0);
    due.is("slip", Due.paper(room).equals("t 0\n") ? 1 : 0, 1);
    room.pass(1);
    ticketTells(room, 1, 4, 1);
    due.is("slips", Due.paper(room).equals("t 0\nu 0\n") ? 1 : 0, 1);
    DarnRoom six = Due.taught("card c ply 1 yards 3 price 1;hand h needle 1 pace 2;jersey j cloth 5 elbows 0;"
        + "ticket t for j darn 0 by 1 at 0 on 0 with c then darn 0 by 1 at 0 on 0 with c then darn 1 by 1 at 0 on 0 with c"
        + " then darn 0 by 1 at 0 on 0 with c then darn 0 by 1 at 0 on 0 with c then darn 1 by 1 at 1 on 0 with c;");
    due.is("six steps in an hour", six.pass(1), 2);
    ticketTells(six, 0, 4, 0);
  }

  private static void behindTheLastStitch() {
    String things = "card c ply 1 yards 99 price 1;hand h needle 1 pace 2;jersey j cloth 5 elbows 0;";
    DarnRoom whole = Due.taught(things + "ticket t for j darn 2 by 1 at 0 on 0 with c;");
    whole.pass(1);
    ticketTells(whole, 0, 4, 0);
    DarnRoom more = Due.taught(things + "ticket t for j darn 2 by 1 at 0 on 0 with c then darn 0 by 1 at 0 on 0 with c"
        + " then darn 3 by 1 at 0 on 1 with c;");
    due.is("pass(1)", more.pass(1), 2);
    due.is("hand(0, 3)", more.hand(0, 3), 2);
    due.is("hand(0, 4)", more.hand(0, 4), 3);
    DarnRoom none = Due.taught(things + "ticket t for j darn 2 by 1 at 0 on 0 with c then darn 0 by 1 at 0 on 0 with c"
        + " then darn 1 by 0 at 0 on 0 with c;");
    none.pass(1);
    ticketTells(none, 0, 4, 0);
    DarnRoom across = Due.taught(things + "ticket t for j darn 1 by 1 at 0 on 0 with c then darn 2 by 1 at 0 on 1 with c;");
    due.is("pass(1) across steps", across.pass(1), 2);
    due.is("hand(0, 3)", across.hand(0, 3), 1);
    due.is("hand(0, 4)", across.hand(0, 4), 1);
  }

  private static void woolEnds() {
    DarnRoom room = Due.taught("card c ply 1 yards 3 price 2;card d ply 1 yards 0 price 1;hand h needle 1 pace 2;"
        + "jersey j cloth 5 elbows 0;ticket t for j darn 4 by 1 at 0 on 0 with c then darn 1 by 1 at 0 on 1 with d;");
    due.is("pass(1)", room.pass(1), 2);
    due.is("pass(1), a yard left", room.pass(1), 1);
    due.is("pass(1), no yards", room.pass(1), 0);
    due.is("card(0, 1)", room.card(0, 1), 0);
    ticketTells(room, 0, 0, 1);
    room.wind(0, 9);
    due.is("pass(1), wound", room.pass(1), 1);
    due.is("hand(0, 3)", room.hand(0, 3), 1);
    due.is("pass(1), no yards of the other", room.pass(1), 0);
    room.wind(1, 1);
    due.is("pass(1), the last stitch", room.pass(1), 1);
    ticketTells(room, 0, 4, 5);
    ticketTells(room, 0, 3, 9);
    DarnRoom last = Due.taught("card c ply 1 yards 2 price 2;hand h needle 1 pace 9;jersey j cloth 5 elbows 0;"
        + "ticket t for j darn 2 by 1 at 0 on 0 with c;");
    last.pass(1);
    ticketTells(last, 0, 4, 0);
  }

  private static void woolShared() {
    DarnRoom room = Due.taught("card c ply 1 yards 5 price 1;hand h needle 1 pace 3;hand g needle 1 pace 9;"
        + "jersey j cloth 5 elbows 0;jersey k cloth 5 elbows 0;"
        + "ticket t for j darn 8 by 1 at 0 on 0 with c;ticket u for k darn 8 by 1 at 0 on 0 with c;");
    due.is("pass(1)", room.pass(1), 5);
    due.is("hand(0, 5)", room.hand(0, 5), 3);
    due.is("hand(1, 5)", room.hand(1, 5), 2);
  }

  private static void oneTicketAnHour() {
    DarnRoom room = Due.taught("card c ply 1 yards 5 price 1;hand h needle 1 pace 9;jersey j cloth 5 elbows 0;"
        + "jersey k cloth 5 elbows 0;"
        + "ticket t for j darn 1 by 1 at 0 on 0 with c;ticket u for k darn 1 by 1 at 0 on 0 with c;");
    due.is("pass(1)", room.pass(1), 1);
    ticketTells(room, 0, 0, 2);
    ticketTells(room, 1, 0, 0);
    due.is("pass(1)", room.pass(1), 1);
    ticketTells(room, 1, 4, 1);
  }

  private static void jerseysUnderHands() {
    DarnRoom room = Due.taught("card c ply 1 yards 50 price 1;hand h needle 1 pace 1;hand g needle 1 pace 1;hand f needle 1 pace 1;"
        + "jersey j cloth 5 elbows 0;jersey k cloth 5 elbows 0;ticket t for j darn 2 by 1 at 0 on 0 with c;"
        + "ticket u for j darn 2 by 1 at 0 on 1 with c;ticket v for k darn 3 by 1 at 0 on 0 with c;");
    due.is("pass(1)", room.pass(1), 2);
    ticketTells(room, 0, 1, 0);
    ticketTells(room, 1, 1, -1);
    ticketTells(room, 2, 1, 1);
    due.is("jersey(0, 2)", room.jersey(0, 2), 0);
    due.is("jersey(1, 2)", room.jersey(1, 2), 1);
    due.is("hand(2, 2)", room.hand(2, 2), -1);
    due.is("pass(1), t is done", room.pass(1), 2);
    due.is("jersey(0, 2)", room.jersey(0, 2), -1);
    due.is("pass(1), the first free hand takes u", room.pass(1), 2);
    ticketTells(room, 1, 1, 0);
    due.is("jersey(0, 2)", room.jersey(0, 2), 0);
  }

  private static void testsAsItWaits() {
    DarnRoom room = Due.taught("card c ply 1 yards 50 price 1;hand h needle 1 pace 9;jersey j cloth 5 elbows 0;"
        + "ticket t for j when waits = 2 darn waits by 1 at 0 on 0 with c;"
        + "ticket u for j when waits = 1 and free h darn waits + 1 by 1 at 0 on 0 with c;");
    due.is("pass(1)", room.pass(1), 1);
    ticketTells(room, 0, 4, 0);
    due.is("pass(1)", room.pass(1), 1);
    ticketTells(room, 1, 4, 1);
  }

  private static void handsBehindEachOther() {
    DarnRoom room = Due.taught("card c ply 1 yards 50 price 1;hand h needle 1 pace 1;hand g needle 1 pace 1;"
        + "jersey j cloth 5 elbows 0;jersey k cloth 5 elbows 0;"
        + "ticket t for j when not free h darn 2 by 1 at 0 on 0 with c;ticket u for k darn 2 by 1 at 0 on 0 with c;");
    room.pass(1);
    ticketTells(room, 1, 1, 0);
    ticketTells(room, 0, 1, 1);
    DarnRoom alone = Due.taught("card c ply 1 yards 50 price 1;hand h needle 1 pace 1;hand g needle 1 pace 1;"
        + "jersey j cloth 5 elbows 0;ticket t for j when not free g darn 2 by 1 at 0 on 0 with c;");
    alone.pass(5);
    ticketTells(alone, 0, 0, 0);
  }

  private static void numbersAsStepsBegin() {
    DarnRoom room = Due.taught("card c ply 1 yards 6 price 1;hand h needle 1 pace 2;hand g needle 1 pace 9;"
        + "jersey j cloth 5 elbows 0;jersey k cloth 1 elbows 0;"
        + "ticket u for k when hour = 1 darn 1 by 1 at 0 on 0 with c;"
        + "ticket t for j darn wool c by 1 at 0 on 0 with c then darn wool c + 2 by hour at stitches u on thin j with c;");
    due.is("pass(1)", room.pass(1), 2);
    due.is("hand(0, 4)", room.hand(0, 4), 4);
    room.wind(0, 3);
    due.is("pass(1)", room.pass(1), 3);
    due.is("card(0, 1)", room.card(0, 1), 4);
    due.is("hand(0, 4) is not laid out anew", room.hand(0, 4), 2);
    due.is("pass(1)", room.pass(1), 2);
    due.is("hand(0, 3)", room.hand(0, 3), 1);
    // 4 cells by 2, from x 1 and y 5 on: one row of them is on the cloth.
    due.is("hand(0, 4)", room.hand(0, 4), 4);
    room.pass(1);
    due.is("cell(0, 1, 5)", room.cell(0, 1, 5), 6);
    due.is("cell(0, 3, 5)", room.cell(0, 3, 5), 6);
    due.is("cell(0, 2, 5)", room.cell(0, 2, 5), 5);
  }

  private static void wornHours() {
    DarnRoom room = Due.taught("jersey j cloth 5 elbows 1;jersey k cloth 9 elbows 0;");
    room.pass(11);
    due.is("jersey(0, 3) in hour 11", room.jersey(0, 3), 240);
    room.pass(1);
    due.is("jersey(0, 3) in hour 12", room.jersey(0, 3), 240 - 48 - 8);
    due.is("jersey(1, 3) in hour 12", room.jersey(1, 3), 8 * 48);
    room.pass(11);
    due.is("jersey(1, 3) in hour 23", room.jersey(1, 3), 8 * 48);
    room.pass(1);
    due.is("jersey(1, 3) in hour 24", room.jersey(1, 3), 7 * 48);
    due.is("cell(0, 1, 2) in hour 24", room.cell(0, 1, 2), 1);
    Due.teach(room, "jersey j cloth 5 elbows 0;");
    room.pass(12);
    due.is("jersey(0, 3) in hour 36", room.jersey(0, 3), 4 * 48);
  }

  private static void wornUnderHands() {
    String things = "card c ply 1 yards 99 price 1;hand h needle 1 pace 1;jersey j cloth 5 elbows 0;jersey k cloth 5 elbows 0;";
    DarnRoom under = Due.taught(things + "ticket t for j darn 8 by 2 at 0 on 0 with c;");
    under.pass(12);
    due.is("jersey(0, 3) under a hand", under.jersey(0, 3), 240 + 12);
    due.is("jersey(1, 3) under none", under.jersey(1, 3), 192);
    DarnRoom ended = Due.taught(things + "ticket t for j darn 6 by 2 at 0 on 0 with c;");
    ended.pass(12);
    due.is("jersey(0, 3), its ticket done in this hour", ended.jersey(0, 3), 192 + 12);
  }
}
