/** The edges of what an hour does, a function for each sentence. */
public final class EdgesOfHoursTest {
  private static final String JERSEYS = "jersey j cloth 9 elbows 0;jersey k cloth 9 elbows 0;jersey l cloth 9 elbows 0;"
      + "jersey m cloth 9 elbows 0;jersey n cloth 9 elbows 0;";
  private static final String WOOL = "card c ply 1 yards 999 price 2;";
  private static final String EMPTY = "darn 0 by 1 at 0 on 0 with c";
  private static final Due due = new Due();

  public static void main(String[] args) {
    eachTicketOnce();
    handsByNumbers();
    firstInTheOrder();
    jerseyNotUnderAHand();
    testHoldsNow();
    asItStillWaits();
    firstStepBegins();
    asManyAsItsPace();
    cellsRoundThePace();
    oneBehindTheOther();
    noYards();
    yardsOfTheNextStep();
    yardsOfOtherHands();
    theNextStepBegins();
    theTicketIsDone();
    stopsForThisHour();
    behindTheLastStitch();
    theStepBehindIt();
    remainderEleven();
    notUnderAHand();
    byWhatWasAhead();
    hourIsGreater();
    due.end("EdgesOfHoursTest");
  }

  private static String hands(int many, int pace) {
    StringBuilder text = new StringBuilder();
    for (int i = 0; i < many; i++) text.append("hand h" + i + " needle 1 pace " + pace + ";");
    return text.toString();
  }

  /** Tickets of one step of some cells in a row, for jerseys named by the signs of a text. */
  private static String tickets(String jerseys, int cells) {
    StringBuilder text = new StringBuilder();
    for (int i = 0; i < jerseys.length(); i++) {
      text.append("ticket t" + i + " for " + jerseys.charAt(i) + " darn " + cells + " by 1 at 0 on 0 with c;");
    }
    return text.toString();
  }

  /** Which ticket each hand has, -1 for none. */
  private static void atHands(DarnRoom room, int... tickets) {
    for (int h = 0; h < tickets.length; h++) due.is("hand(" + h + ", 2) in hour " + room.count(0), room.hand(h, 2), tickets[h]);
  }

  private static void states(DarnRoom room, int... states) {
    for (int t = 0; t < states.length; t++) due.is("ticket(" + t + ", 0) in hour " + room.count(0), room.ticket(t, 0), states[t]);
  }

  private static void eachTicketOnce() {
    due.says("Each waits (at first), is at a hand, or is done.");
    DarnRoom room = Due.taught(WOOL + JERSEYS + hands(1, 1) + tickets("j", 2));
    for (int hour = 0; hour < 4; hour++) {
      due.is("ticket(0, 0)", room.ticket(0, 0), hour < 2 ? hour : 2);
      due.is("ticket(0, 1)", room.ticket(0, 1), hour == 1 ? 0 : -1);
      due.is("ticket(0, 4)", room.ticket(0, 4), hour < 2 ? -1 : 1);
      due.is("ticket(0, 5)", room.ticket(0, 5), hour == 0 ? 0 : -1);
      due.is("count(5)", room.count(5), hour == 0 ? 1 : 0);
      due.is("count(6)", room.count(6), hour < 2 ? 0 : 1);
      due.is("jersey(0, 2)", room.jersey(0, 2), hour == 1 ? 0 : -1);
      room.pass(1);
    }
  }

  private static void handsByNumbers() {
    due.says("1. Hands, by numbers: one without a ticket takes the first one in the order that waits");
    for (int many = 0; many <= 5; many++) {
      DarnRoom room = Due.taught(WOOL + JERSEYS + hands(4, 1) + tickets("jklmn".substring(0, many), 3));
      room.pass(1);
      for (int h = 0; h < 4; h++) {
        due.is("hand(" + h + ", 2) of " + many + " tickets", room.hand(h, 2), h < many ? h : -1);
        due.is("hand(" + h + ", 5) of " + many + " tickets", room.hand(h, 5), h < many ? 1 : 0);
      }
      due.is("count(5)", room.count(5), Math.max(0, many - 4));
    }
  }

  private static void firstInTheOrder() {
    due.says("Tickets are looked at in an order: as told, at first.");
    DarnRoom told = Due.taught(WOOL + JERSEYS + hands(2, 1) + tickets("jkl", 3));
    told.pass(1);
    atHands(told, 0, 1);
    DarnRoom hurried = Due.taught(WOOL + JERSEYS + hands(2, 1) + tickets("jkl", 3));
    hurried.hurry(2);
    hurried.pass(1);
    atHands(hurried, 2, 0);
    DarnRoom twice = Due.taught(WOOL + JERSEYS + hands(2, 1) + tickets("jkl", 3));
    twice.hurry(1);
    twice.hurry(2);
    twice.pass(1);
    atHands(twice, 2, 1);
  }

  private static void jerseyNotUnderAHand() {
    due.says("whose jersey is not under a hand");
    DarnRoom room = Due.taught(WOOL + JERSEYS + hands(3, 1) + tickets("jjkkj", 2));
    room.pass(1);
    atHands(room, 0, 2, -1);
    states(room, 1, 0, 1, 0, 0);
    room.pass(1);
    states(room, 2, 0, 2, 0, 0);
    atHands(room, -1, -1, -1);
    room.pass(1);
    atHands(room, 1, 3, -1);
    room.pass(2);
    atHands(room, 4, -1, -1);
    DarnRoom woolless = Due.taught("card c ply 1 yards 0 price 1;" + JERSEYS + hands(2, 9) + tickets("jj", 1));
    woolless.pass(50);
    atHands(woolless, 0, -1);
    due.is("jersey(0, 2)", woolless.jersey(0, 2), 0);
  }

  private static void testHoldsNow() {
    due.says("and whose test holds now, as it still waits (or that has none)");
    for (int hour = 0; hour < 4; hour++) {
      DarnRoom room = Due.taught(WOOL + JERSEYS + hands(1, 9) + "ticket t for j when hour = " + hour + " darn 1 by 1 at 0 on 0 with c;");
      room.pass(5);
      due.is("ticket(0, 4) when hour = " + hour, room.ticket(0, 4), hour);
    }
    DarnRoom passed = Due.taught(WOOL + JERSEYS + hands(1, 9) + "ticket t for j when hour < 1 darn 1 by 1 at 0 on 0 with c;"
        + "ticket u for j when hour < 1 darn 1 by 1 at 0 on 0 with c;ticket v for j darn 1 by 1 at 0 on 0 with c;");
    passed.pass(9);
    states(passed, 2, 0, 2);
    due.is("ticket(2, 4)", passed.ticket(2, 4), 1);
    DarnRoom skipped = Due.taught(WOOL + JERSEYS + hands(2, 1) + "ticket t for j when 1 = 2 darn 2 by 1 at 0 on 0 with c;"
        + "ticket u for k darn 2 by 1 at 0 on 0 with c;");
    skipped.pass(1);
    atHands(skipped, 1, -1);
    // The second hand looks at its ticket when the first one has taken another.
    DarnRoom behind = Due.taught(WOOL + JERSEYS + hands(2, 1) + "ticket t for j when not free h0 and waits = 1 darn 2 by 1 at 0 on 0 with c;"
        + "ticket u for k when free h0 and waits = 2 darn 2 by 1 at 0 on 0 with c;");
    behind.pass(1);
    atHands(behind, 1, 0);
  }

  private static void asItStillWaits() {
    due.says("whose test holds now, as it still waits");
    String step = " darn 2 by 1 at 0 on 0 with c;";
    for (int waits = 0; waits <= 2; waits++) {
      DarnRoom room = Due.taught(WOOL + JERSEYS + hands(1, 1) + "ticket t for j when waits = " + waits + step);
      room.pass(1);
      atHands(room, waits == 1 ? 0 : -1);
    }
    DarnRoom free = Due.taught(WOOL + JERSEYS + hands(1, 1) + "ticket t for j when free h0" + step);
    free.pass(1);
    atHands(free, 0);
    DarnRoom taken = Due.taught(WOOL + JERSEYS + hands(1, 1) + "ticket t for j when not free h0" + step);
    taken.pass(1);
    atHands(taken, -1);
  }

  private static void firstStepBegins() {
    due.says("its first step begins");
    DarnRoom room = Due.taught("card c ply 1 yards 0 price 1;" + JERSEYS + hands(2, 3)
        + "ticket t for j darn waits by 1 at hour on 0 with c then " + EMPTY + ";ticket u for k darn waits + 1 by 6 at 0 on 0 with c;");
    due.is("hand(0, 3)", room.hand(0, 3), -1);
    due.is("hand(0, 4)", room.hand(0, 4), 0);
    room.pass(1);
    due.is("hand(0, 3)", room.hand(0, 3), 0);
    // One ticket waits when the first one begins, and none when the second one does.
    due.is("hand(0, 4)", room.hand(0, 4), 1);
    due.is("hand(1, 4)", room.hand(1, 4), 6);
    due.is("hand(1, 3)", room.hand(1, 3), 0);
  }

  private static void asManyAsItsPace() {
    due.says("2. Hands with a ticket, by numbers: each makes as many stitches as its pace");
    for (int pace = 1; pace <= 9; pace++) {
      DarnRoom room = Due.taught(WOOL + JERSEYS + hands(1, pace) + "ticket t for j darn 8 by 6 at 0 on 0 with c;");
      for (int hour = 1; hour <= 4; hour++) {
        due.is("pass(1) with pace " + pace, room.pass(1), pace);
        due.is("hand(0, 4)", room.hand(0, 4), 48 - hour * pace);
        due.is("hand(0, 5)", room.hand(0, 5), hour * pace);
        due.is("ticket(0, 2)", room.ticket(0, 2), hour * pace);
        due.is("ticket(0, 3)", room.ticket(0, 3), 2 * hour * pace);
        due.is("card(0, 1)", room.card(0, 1), 999 - hour * pace);
        due.is("jersey(0, 3)", room.jersey(0, 3), 9 * 48 + hour * pace);
      }
    }
  }

  private static void cellsRoundThePace() {
    due.says("2. Hands with a ticket, by numbers: each makes as many stitches as its pace");
    for (int pace = 1; pace <= 9; pace++) {
      for (int cells = 1; cells <= 8; cells++) {
        DarnRoom room = Due.taught(WOOL + JERSEYS + hands(1, pace) + tickets("j", cells));
        due.is("pass(1), pace " + pace + ", cells " + cells, room.pass(1), Math.min(pace, cells));
        due.is("ticket(0, 0), pace " + pace + ", cells " + cells, room.ticket(0, 0), cells <= pace ? 2 : 1);
        due.is("hand(0, 4)", room.hand(0, 4), Math.max(0, cells - pace));
        room.pass(9);
        due.is("ticket(0, 4), pace " + pace + ", cells " + cells, room.ticket(0, 4), (cells - 1) / pace);
      }
    }
  }

  private static void oneBehindTheOther() {
    due.says("one behind the other");
    // The second hand's step begins in hour 1, behind the stitches of the first one.
    DarnRoom room = Due.taught(WOOL + JERSEYS + hands(2, 3) + "ticket t for j darn 8 by 6 at 0 on 0 with c;"
        + "ticket u for k darn 3 by 1 at 0 on 0 with c then darn stitches t by 6 at 0 on 0 with c;");
    room.pass(1);
    due.is("hand(1, 3)", room.hand(1, 3), 1);
    due.is("hand(1, 4)", room.hand(1, 4), 18);
    DarnRoom other = Due.taught(WOOL + JERSEYS + hands(2, 3)
        + "ticket t for j darn 8 by 6 at 0 on 0 with c;ticket u for k " + EMPTY + " then darn stitches t by 6 at 0 on 0 with c;");
    due.is("pass(1)", other.pass(1), 6);
    due.is("hand(1, 4), less its own three", other.hand(1, 4), 15);
  }

  private static void noYards() {
    due.says("but if the card has no yards, the hand stops for this hour");
    for (int yards = 0; yards <= 8; yards++) {
      DarnRoom room = Due.taught("card c ply 1 yards " + yards + " price 1;" + JERSEYS + hands(1, 5) + tickets("j", 8));
      due.is("pass(1) with " + yards + " yards", room.pass(1), Math.min(5, yards));
      due.is("card(0, 1)", room.card(0, 1), Math.max(0, yards - 5));
      due.is("pass(1) again", room.pass(1), Math.max(0, yards - 5));
      due.is("ticket(0, 0)", room.ticket(0, 0), yards == 8 ? 2 : 1);
      due.is("hand(0, 4)", room.hand(0, 4), 8 - yards);
      if (yards == 8) continue;
      due.is("pass(30) with none", room.pass(30), 0);
      due.is("wind(0, 1)", room.wind(0, 1), 1);
      due.is("pass(1), a yard", room.pass(1), 1);
      due.is("hand(0, 4), a yard", room.hand(0, 4), 7 - yards);
      due.is("card(0, 1)", room.card(0, 1), 0);
    }
  }

  private static void yardsOfTheNextStep() {
    due.says("but if the card has no yards, the hand stops for this hour");
    String steps = "ticket t for j darn 3 by 1 at 0 on 0 with c then darn 3 by 1 at 0 on 1 with d;";
    for (int yards = 0; yards <= 3; yards++) {
      DarnRoom room = Due.taught("card c ply 1 yards " + yards + " price 1;card d ply 1 yards 9 price 1;" + JERSEYS + hands(1, 9) + steps);
      due.is("pass(1) with " + yards + " yards of c", room.pass(1), yards == 3 ? 6 : yards);
      due.is("card(1, 1)", room.card(1, 1), yards == 3 ? 6 : 9);
      DarnRoom other = Due.taught("card c ply 1 yards 9 price 1;card d ply 1 yards " + yards + " price 1;" + JERSEYS + hands(1, 9) + steps);
      due.is("pass(1) with " + yards + " yards of d", other.pass(1), 3 + yards);
      due.is("ticket(0, 0)", other.ticket(0, 0), yards == 3 ? 2 : 1);
      due.is("hand(0, 3)", other.hand(0, 3), yards == 3 ? -1 : 1);
    }
  }

  private static void yardsOfOtherHands() {
    due.says("the hand stops for this hour");
    for (int yards = 0; yards <= 9; yards++) {
      DarnRoom room = Due.taught("card c ply 1 yards " + yards + " price 1;card d ply 1 yards 9 price 1;" + JERSEYS + hands(3, 3)
          + "ticket t for j darn 8 by 1 at 0 on 0 with c;ticket u for k darn 8 by 1 at 0 on 0 with c;"
          + "ticket v for l darn 8 by 1 at 0 on 0 with d;");
      due.is("pass(1) with " + yards + " yards", room.pass(1), Math.min(6, yards) + 3);
      due.is("hand(0, 5)", room.hand(0, 5), Math.min(3, yards));
      due.is("hand(1, 5)", room.hand(1, 5), Math.max(0, Math.min(3, yards - 3)));
      due.is("hand(2, 5)", room.hand(2, 5), 3);
    }
  }

  private static void theNextStepBegins() {
    due.says("If it has no such cells, the next step begins (this is no stitch)");
    for (int empty = 0; empty <= 5; empty++) {
      String steps = Rooms.times(empty, EMPTY + " then ");
      DarnRoom room = Due.taught(WOOL + JERSEYS + hands(1, 6) + "ticket t for j " + steps + "darn 6 by 1 at 0 on 0 with c;");
      due.is("pass(1) behind " + empty + " empty steps", room.pass(1), 6);
      due.is("ticket(0, 4)", room.ticket(0, 4), 0);
      DarnRoom more = Due.taught(WOOL + JERSEYS + hands(1, 6) + "ticket t for j " + steps + "darn 7 by 1 at 0 on 0 with c;");
      due.is("pass(1) behind " + empty + " empty steps, a cell more", more.pass(1), 6);
      due.is("hand(0, 3)", more.hand(0, 3), empty);
      due.is("hand(0, 4)", more.hand(0, 4), 1);
      DarnRoom one = Due.taught("card c ply 1 yards 0 price 2;" + JERSEYS + hands(1, 1) + "ticket t for j " + steps + "darn 1 by 1 at 0 on 0 with c;");
      due.is("pass(1) without wool", one.pass(1), 0);
      due.is("hand(0, 3) without wool", one.hand(0, 3), empty);
    }
    DarnRoom across = Due.taught(WOOL + JERSEYS + hands(1, 9) + "ticket t for j darn 1 by 1 at 0 on 0 with c"
        + Rooms.times(5, " then darn 2 by 1 at 0 on 0 with c") + ";");
    due.is("pass(1) across five steps", across.pass(1), 9);
    due.is("hand(0, 3)", across.hand(0, 3), 5);
    due.is("hand(0, 4)", across.hand(0, 4), 2);
  }

  private static void theTicketIsDone() {
    due.says("behind the last one the ticket is done: a slip is written, and the hand has no ticket any more");
    for (int steps = 1; steps <= 6; steps++) {
      DarnRoom empty = Due.taught("card c ply 1 yards 0 price 2;" + JERSEYS + hands(1, 1)
          + "ticket t for j " + EMPTY + Rooms.times(steps - 1, " then " + EMPTY) + ";");
      due.is("pass(1) of " + steps + " empty steps", empty.pass(1), 0);
      states(empty, 2);
      due.is("ticket(0, 4)", empty.ticket(0, 4), 0);
      due.holds("the slip of nothing", Due.paper(empty).equals("t 0\n"));
      DarnRoom room = Due.taught(WOOL + JERSEYS + hands(1, 1) + "ticket t for j darn 1 by 1 at 0 on 0 with c"
          + Rooms.times(steps - 1, " then darn 1 by 1 at 0 on 0 with c") + ";");
      if (steps > 1) due.is("pass()", room.pass(steps - 1), steps - 1);
      states(room, steps > 1 ? 1 : 0);
      due.is("count(10)", room.count(10), 0);
      due.is("the last pass(1)", room.pass(1), 1);
      states(room, 2);
      int[] hand = {1, 1, -1, -1, 0, steps};
      for (int what = 0; what < 6; what++) due.is("hand(0, " + what + ")", room.hand(0, what), hand[what]);
      due.holds("the slip", Due.paper(room).equals("t " + 2 * steps + "\n"));
      room.pass(50);
      due.is("one slip", room.count(10), Due.paper(room).indexOf('\n') + 1);
    }
  }

  private static void stopsForThisHour() {
    due.says("and the hand has no ticket any more, and stops for this hour");
    DarnRoom room = Due.taught(WOOL + JERSEYS + hands(1, 9) + tickets("jkjl", 1));
    for (int t = 0; t < 4; t++) {
      due.is("pass(1)", room.pass(1), 1);
      atHands(room, -1);
      due.is("ticket(" + t + ", 4)", room.ticket(t, 4), t);
      due.is("count(5)", room.count(5), 3 - t);
      due.is("count(6)", room.count(6), 1 + t);
    }
    DarnRoom two = Due.taught(WOOL + JERSEYS + hands(2, 9) + tickets("jj", 1));
    two.pass(1);
    states(two, 2, 0);
    // Neither does the second hand take a ticket of the jersey that is free again behind the first one.
    due.is("hand(1, 5)", two.hand(1, 5), 0);
  }

  private static void behindTheLastStitch() {
    due.says("Also behind the last stitch of the pace steps without cells left are gone through, all one behind the other.");
    for (int pace = 1; pace <= 8; pace++) {
      for (int empty = 0; empty <= 5; empty++) {
        DarnRoom last = Due.taught(WOOL + JERSEYS + hands(1, pace) + "ticket t for j darn " + pace + " by 1 at 0 on 0 with c"
            + Rooms.times(empty, " then " + EMPTY) + ";");
        due.is("pass(1), pace " + pace, last.pass(1), pace);
        due.is("ticket(0, 4), " + empty + " empty steps behind", last.ticket(0, 4), 0);
        if (empty == 5) continue;
        DarnRoom more = Due.taught(WOOL + JERSEYS + hands(1, pace) + "ticket t for j darn " + pace + " by 1 at 0 on 0 with c"
            + Rooms.times(empty, " then " + EMPTY) + " then darn 1 by 1 at 0 on 1 with c;");
        due.is("pass(1), pace " + pace, more.pass(1), pace);
        due.is("hand(0, 3)", more.hand(0, 3), empty + 1);
        due.is("hand(0, 4)", more.hand(0, 4), 1);
        due.is("ticket(0, 0)", more.ticket(0, 0), 1);
      }
    }
    DarnRoom woolless = Due.taught("card c ply 1 yards 3 price 1;" + JERSEYS + hands(1, 3) + "ticket t for j darn 3 by 1 at 0 on 0 with c then "
        + EMPTY + ";");
    due.is("pass(1), the last yard", woolless.pass(1), 3);
    states(woolless, 2);
  }

  private static void theStepBehindIt() {
    due.says("numbers as they are as the step begins");
    // The second step begins behind the last stitch of hour 1: two wide; in hour 2 it would be three.
    DarnRoom room = Due.taught(WOOL + JERSEYS + hands(1, 2) + "ticket t for j darn 4 by 1 at 0 on 0 with c"
        + " then darn hour + 1 by 1 at 0 on 1 with c;");
    room.pass(2);
    due.is("hand(0, 3)", room.hand(0, 3), 1);
    due.is("hand(0, 4)", room.hand(0, 4), 2);
  }

  private static void remainderEleven() {
    due.says("3. In hours with the remainder 11 by 12 all jerseys that are not under a hand are worn");
    DarnRoom room = Due.taught("jersey j cloth 20 elbows 0;jersey k cloth 19 elbows 2;");
    for (int hour = 0; hour < 60; hour++) {
      room.pass(1);
      due.is("cell(0, 0, 0) behind hour " + hour, room.cell(0, 0, 0), 20 - (hour + 1) / 12);
      due.is("cell(1, 1, 2) behind hour " + hour, room.cell(1, 1, 2), 19 - 3 * ((hour + 1) / 12));
    }
    for (int hours : new int[] {1, 11, 12, 13, 23, 24, 25, 119, 120}) {
      DarnRoom other = Due.taught("jersey j cloth 20 elbows 0;");
      other.pass(hours);
      due.is("cell(0, 0, 0) behind pass(" + hours + ")", other.cell(0, 0, 0), 20 - hours / 12);
    }
    // Taught in hour 5: the hours count, not how long the jersey is there.
    DarnRoom late = new DarnRoom();
    late.pass(5);
    Due.teach(late, "jersey j cloth 20 elbows 0;");
    late.pass(6);
    due.is("cell(0, 0, 0) in hour 11", late.cell(0, 0, 0), 20);
    late.pass(1);
    due.is("cell(0, 0, 0) in hour 12", late.cell(0, 0, 0), 19);
  }

  /** How much thinner a cell is behind hour 11, that is not darned; its ticket is taken in an hour, and has some cells. */
  private static int worn(int hour, int cells) {
    DarnRoom room = Due.taught(WOOL + JERSEYS + hands(1, 1) + "ticket t for k when hour = " + hour + " darn " + cells
        + " by 1 at 0 on 0 with c;");
    room.pass(12);
    due.is("cell(0, 7, 5) of another one", room.cell(0, 7, 5), 8);
    due.is("cell(2, 7, 5) of another one", room.cell(2, 7, 5), 8);
    return 9 - room.cell(1, 7, 5);
  }

  private static void notUnderAHand() {
    due.says("all jerseys that are not under a hand are worn");
    due.is("worn, the ticket is done in hour 10", worn(9, 2), 1);
    due.is("worn, the ticket is done in hour 11", worn(10, 2), 1);
    due.is("worn, the ticket goes on in hour 12", worn(10, 3), 0);
    due.is("worn, the ticket is taken and done in hour 11", worn(11, 1), 1);
    due.is("worn, the ticket is taken in hour 11", worn(11, 2), 0);
    due.is("worn, the ticket waits for hour 12", worn(12, 2), 1);
    DarnRoom handless = Due.taught(WOOL + JERSEYS + tickets("jk", 1));
    handless.pass(12);
    for (int j = 0; j < 3; j++) due.is("jersey(" + j + ", 3), whose ticket waits", handless.jersey(j, 3), 8 * 48);
    DarnRoom busy = Due.taught(WOOL + JERSEYS + hands(1, 1) + tickets("jjk", 8));
    busy.pass(12);
    due.is("jersey(0, 3), under the hand", busy.jersey(0, 3), 9 * 48 + 12);
    due.is("jersey(1, 3), whose ticket waits for the hand", busy.jersey(1, 3), 8 * 48);
    DarnRoom four = Due.taught("card c ply 1 yards 0 price 1;" + JERSEYS + hands(4, 1) + tickets("mlkj", 1));
    four.pass(12);
    for (int j = 0; j < 5; j++) due.is("jersey(" + j + ", 3), four of them under hands", four.jersey(j, 3), j == 4 ? 8 * 48 : 9 * 48);
    DarnRoom woolless = Due.taught("card c ply 1 yards 0 price 1;" + JERSEYS + hands(1, 1) + tickets("j", 1));
    woolless.pass(120);
    due.is("jersey(0, 3), always under a hand", woolless.jersey(0, 3), 9 * 48);
    due.is("jersey(1, 0)", woolless.jersey(1, 0), 48);
  }

  private static void byWhatWasAhead() {
    due.says("are worn, by what was ahead of it");
    // A hole at the left, 9 thick cells else: 1 more for those beside a hole ahead of the wear, not beside one that it makes.
    DarnRoom room = HolesTest.cloth("o.......", "o.......", "o.......", "o.......", "o.......", "o.......");
    int[] beside = {7, 5, 3, 1, 0, 0, 0};
    int[] next = {8, 7, 6, 5, 4, 2, 0};
    int[] third = {8, 7, 6, 5, 4, 3, 2};
    for (int i = 0; i < 7; i++) {
      room.wear(0, 1);
      for (int y = 0; y < 6; y++) {
        due.is("cell(0, 0, " + y + ")", room.cell(0, 0, y), 0);
        due.is("cell(0, 1, " + y + ") behind " + (i + 1), room.cell(0, 1, y), beside[i]);
        due.is("cell(0, 2, " + y + ") behind " + (i + 1), room.cell(0, 2, y), next[i]);
        due.is("cell(0, 3, " + y + ") behind " + (i + 1), room.cell(0, 3, y), third[i]);
      }
    }
  }

  private static void hourIsGreater() {
    due.says("4. The hour is 1 greater.");
    DarnRoom room = new DarnRoom();
    int hour = 0;
    for (int hours : new int[] {1, 1, 2, 11, 120, 1, 119}) {
      room.pass(hours);
      hour += hours;
      due.is("count(0)", room.count(0), hour);
    }
  }
}
