/** Promises 7 to 14: card, wind, hand, cell, jersey, ticket, hurry, wear. */
public final class ThingsTest {
  private static final String WORK =
      "card c ply 2 yards 50 price 3; card d ply 9 yards 0 price 20;"
          + "hand h needle 1 pace 3; hand g needle 4 pace 9;"
          + "jersey j cloth 5 elbows 2; jersey k cloth 20 elbows 0;"
          + "ticket a for j darn 2 by 2 at 0 on 0 with c then darn 1 by 1 at 7 on 5 with c;"
          + "ticket b for j darn 1 by 1 at 0 on 0 with c;"
          + "ticket e for k when hour > 0 darn 8 by 6 at 0 on 0 with c;"
          + "ticket f for k when hour > 99 darn 1 by 1 at 0 on 0 with d;";
  private static final Class<IndexOutOfBoundsException> NO_INDEX = IndexOutOfBoundsException.class;
  private static final Class<IllegalArgumentException> NO_ARGUMENT = IllegalArgumentException.class;
  private static final Class<IllegalStateException> NO_STATE = IllegalStateException.class;
  private static final Due due = new Due();

  public static void main(String[] args) {
    atFirst();
    behindOneHour();
    behindTwoHours();
    outside();
    winding();
    hurrying();
    hurriedOrder();
    wearing();
    wearingHoles();
    wearingBesideOne();
    notWorn();
    due.end("ThingsTest");
  }

  private static void cardTells(DarnRoom room, int card, int... want) {
    for (int what = 0; what < 3; what++) due.is("card(" + card + ", " + what + ")", room.card(card, what), want[what]);
  }

  private static void handTells(DarnRoom room, int hand, int... want) {
    for (int what = 0; what < 6; what++) due.is("hand(" + hand + ", " + what + ")", room.hand(hand, what), want[what]);
  }

  private static void jerseyTells(DarnRoom room, int jersey, int... want) {
    for (int what = 0; what < 4; what++) due.is("jersey(" + jersey + ", " + what + ")", room.jersey(jersey, what), want[what]);
  }

  private static void ticketTells(DarnRoom room, int ticket, int... want) {
    for (int what = 0; what < 8; what++) due.is("ticket(" + ticket + ", " + what + ")", room.ticket(ticket, what), want[what]);
  }

  /** Looks at the cells of a jersey, told row by row. */
  private static void cells(DarnRoom room, int jersey, String... rows) {
    for (int y = 0; y < 6; y++) {
      String[] row = rows[y].split(" ");
      for (int x = 0; x < 8; x++) due.is("cell(" + jersey + ", " + x + ", " + y + ")", room.cell(jersey, x, y), Integer.parseInt(row[x]));
    }
  }

  private static void atFirst() {
    DarnRoom room = Due.taught(WORK);
    cardTells(room, 0, 2, 50, 3);
    cardTells(room, 1, 9, 0, 20);
    handTells(room, 0, 1, 3, -1, -1, 0, 0);
    handTells(room, 1, 4, 9, -1, -1, 0, 0);
    jerseyTells(room, 0, 0, 5, -1, 240);
    jerseyTells(room, 1, 0, 20, -1, 960);
    ticketTells(room, 0, 0, -1, 0, 0, -1, 0, 0, 2);
    ticketTells(room, 3, 0, -1, 0, 0, -1, 3, 1, 1);
    String row = "5 5 5 5 5 5 5 5";
    cells(room, 0, row, row, row, row, row, row);
  }

  private static void behindOneHour() {
    DarnRoom room = Due.taught(WORK);
    due.is("pass(1)", room.pass(1), 3);
    cardTells(room, 0, 2, 47, 3);
    handTells(room, 0, 1, 3, 0, 0, 1, 3);
    handTells(room, 1, 4, 9, -1, -1, 0, 0);
    jerseyTells(room, 0, 0, 5, 0, 246);
    jerseyTells(room, 1, 0, 20, -1, 960);
    ticketTells(room, 0, 1, 0, 3, 9, -1, -1, 0, 2);
    ticketTells(room, 1, 0, -1, 0, 0, -1, 0, 0, 1);
    ticketTells(room, 2, 0, -1, 0, 0, -1, 1, 1, 1);
    ticketTells(room, 3, 0, -1, 0, 0, -1, 2, 1, 1);
    String row = "5 5 5 5 5 5 5 5";
    cells(room, 0, "7 7 5 5 5 5 5 5", "5 7 5 5 5 5 5 5", row, row, row, row);
  }

  private static void behindTwoHours() {
    DarnRoom room = Due.taught(WORK);
    room.pass(1);
    due.is("the second pass(1)", room.pass(1), 11);
    cardTells(room, 0, 2, 36, 3);
    handTells(room, 0, 1, 3, -1, -1, 0, 5);
    handTells(room, 1, 4, 9, 2, 0, 39, 9);
    jerseyTells(room, 0, 0, 5, -1, 250);
    jerseyTells(room, 1, 0, 20, 1, 978);
    ticketTells(room, 0, 2, -1, 5, 15, 1, -1, 0, 2);
    ticketTells(room, 1, 0, -1, 0, 0, -1, 0, 0, 1);
    ticketTells(room, 2, 1, 1, 9, 27, -1, -1, 1, 1);
    ticketTells(room, 3, 0, -1, 0, 0, -1, 1, 1, 1);
    String row = "5 5 5 5 5 5 5 5";
    cells(room, 0, "7 7 5 5 5 5 5 5", "7 7 5 5 5 5 5 5", row, row, row, "5 5 5 5 5 5 5 7");
    String twenties = "20 20 20 20 20 20 20 20";
    cells(room, 1, "22 22 22 22 20 20 20 20", "20 20 20 20 22 22 22 22", "22 20 20 20 20 20 20 20", twenties, twenties, twenties);
  }

  private static void outside() {
    DarnRoom room = Due.taught(WORK);
    room.pass(2);
    int[] wrong = {-1, Integer.MIN_VALUE, Integer.MAX_VALUE};
    for (int i : wrong) {
      due.refuses(room, "card(" + i + ", 0)", NO_INDEX, () -> room.card(i, 0));
      due.refuses(room, "card(0, " + i + ")", NO_INDEX, () -> room.card(0, i));
      due.refuses(room, "hand(" + i + ", 0)", NO_INDEX, () -> room.hand(i, 0));
      due.refuses(room, "hand(0, " + i + ")", NO_INDEX, () -> room.hand(0, i));
      due.refuses(room, "jersey(" + i + ", 0)", NO_INDEX, () -> room.jersey(i, 0));
      due.refuses(room, "jersey(0, " + i + ")", NO_INDEX, () -> room.jersey(0, i));
      due.refuses(room, "ticket(" + i + ", 0)", NO_INDEX, () -> room.ticket(i, 0));
      due.refuses(room, "ticket(0, " + i + ")", NO_INDEX, () -> room.ticket(0, i));
      due.refuses(room, "cell(" + i + ", 0, 0)", NO_INDEX, () -> room.cell(i, 0, 0));
      due.refuses(room, "cell(0, " + i + ", 0)", NO_INDEX, () -> room.cell(0, i, 0));
      due.refuses(room, "cell(0, 0, " + i + ")", NO_INDEX, () -> room.cell(0, 0, i));
    }
    due.refuses(room, "card(2, 0)", NO_INDEX, () -> room.card(2, 0));
    due.refuses(room, "card(0, 3)", NO_INDEX, () -> room.card(0, 3));
    due.refuses(room, "hand(2, 0)", NO_INDEX, () -> room.hand(2, 0));
    due.refuses(room, "hand(0, 6)", NO_INDEX, () -> room.hand(0, 6));
    due.refuses(room, "jersey(2, 0)", NO_INDEX, () -> room.jersey(2, 0));
    due.refuses(room, "jersey(0, 4)", NO_INDEX, () -> room.jersey(0, 4));
    due.refuses(room, "ticket(4, 0)", NO_INDEX, () -> room.ticket(4, 0));
    due.refuses(room, "ticket(0, 8)", NO_INDEX, () -> room.ticket(0, 8));
    due.refuses(room, "cell(2, 0, 0)", NO_INDEX, () -> room.cell(2, 0, 0));
    due.refuses(room, "cell(0, 8, 0)", NO_INDEX, () -> room.cell(0, 8, 0));
    due.refuses(room, "cell(0, 0, 6)", NO_INDEX, () -> room.cell(0, 0, 6));
    due.refuses(room, "cell(0, 6, 6)", NO_INDEX, () -> room.cell(0, 6, 6));
  }

  private static void winding() {
    DarnRoom room = Due.taught(WORK);
    due.is("wind(1, 1)", room.wind(1, 1), 1);
    due.is("card(1, 1)", room.card(1, 1), 1);
    due.is("wind(0, 500)", room.wind(0, 500), 550);
    due.is("wind(0, 448)", room.wind(0, 448), 998);
    due.is("wind(0, 1)", room.wind(0, 1), 999);
    due.is("wind(0, 500) of 999", room.wind(0, 500), 999);
    due.is("card(0, 1)", room.card(0, 1), 999);
    due.is("card(1, 1) still", room.card(1, 1), 1);
    due.refuses(room, "wind(1, 0)", NO_ARGUMENT, () -> room.wind(1, 0));
    due.refuses(room, "wind(1, 501)", NO_ARGUMENT, () -> room.wind(1, 501));
    due.refuses(room, "wind(1, -1)", NO_ARGUMENT, () -> room.wind(1, -1));
    due.refuses(room, "wind(1, greatest)", NO_ARGUMENT, () -> room.wind(1, Integer.MAX_VALUE));
    due.refuses(room, "wind(2, 5)", NO_INDEX, () -> room.wind(2, 5));
    due.refuses(room, "wind(-1, 5)", NO_INDEX, () -> room.wind(-1, 5));
    due.refuses(room, "wind(2, 0)", NO_INDEX, () -> room.wind(2, 0));
  }

  private static void hurrying() {
    DarnRoom room = Due.taught(WORK);
    due.is("hurry(0)", room.hurry(0), 0);
    due.is("hurry(2)", room.hurry(2), 2);
    int[] places = {1, 2, 0, 3};
    for (int t = 0; t < 4; t++) due.is("ticket(" + t + ", 5)", room.ticket(t, 5), places[t]);
    due.is("hurry(0) again", room.hurry(0), 1);
    room.pass(2);
    due.is("hurry(3)", room.hurry(3), 1);
    due.is("ticket(3, 5)", room.ticket(3, 5), 0);
    due.is("ticket(1, 5)", room.ticket(1, 5), 1);
    due.is("hurry(3) again", room.hurry(3), 0);
    due.refuses(room, "hurry of one that is done", NO_STATE, () -> room.hurry(0));
    due.refuses(room, "hurry of one at a hand", NO_STATE, () -> room.hurry(2));
    due.refuses(room, "hurry(4)", NO_INDEX, () -> room.hurry(4));
    due.refuses(room, "hurry(-1)", NO_INDEX, () -> room.hurry(-1));
  }

  private static void hurriedOrder() {
    String three = "card c ply 1 yards 9 price 1;hand h needle 1 pace 1;jersey j cloth 1 elbows 0;"
        + "ticket a for j darn 1 by 1 at 0 on 0 with c;ticket b for j darn 1 by 1 at 0 on 0 with c;"
        + "ticket d for j darn 1 by 1 at 0 on 0 with c;";
    DarnRoom told = Due.taught(three);
    told.pass(3);
    for (int t = 0; t < 3; t++) due.is("as told: ticket(" + t + ", 4)", told.ticket(t, 4), t);
    DarnRoom room = Due.taught(three);
    room.hurry(1);
    room.hurry(2);
    room.pass(3);
    int[] hours = {2, 1, 0};
    for (int t = 0; t < 3; t++) due.is("hurried: ticket(" + t + ", 4)", room.ticket(t, 4), hours[t]);
    due.is("the slips", Due.paper(room).equals("d 1\nb 1\na 1\n") ? 1 : 0, 1);
  }

  private static void wearing() {
    DarnRoom room = Due.taught("jersey j cloth 5 elbows 2;jersey k cloth 5 elbows 0;");
    due.is("wear(0, 1)", room.wear(0, 1), 0);
    String fours = "4 4 4 4 4 4 4 4";
    cells(room, 0, fours, fours, "4 2 2 4 4 2 2 4", "4 2 2 4 4 2 2 4", fours, fours);
    due.is("wear(0, 1) again", room.wear(0, 1), 8);
    String threes = "3 3 3 3 3 3 3 3";
    cells(room, 0, threes, threes, "3 0 0 3 3 0 0 3", "3 0 0 3 3 0 0 3", threes, threes);
    due.is("wear(0, 1), third", room.wear(0, 1), 8);
    String edge = "2 1 1 2 2 1 1 2";
    String twos = "2 2 2 2 2 2 2 2";
    cells(room, 0, twos, edge, "1 0 0 1 1 0 0 1", "1 0 0 1 1 0 0 1", edge, twos);
    due.is("wear(0, 1), fourth", room.wear(0, 1), 24);
    cells(room, 0, "1 1 1 1 1 1 1 1", "1 0 0 1 1 0 0 1", "0 0 0 0 0 0 0 0", "0 0 0 0 0 0 0 0", "1 0 0 1 1 0 0 1", "1 1 1 1 1 1 1 1");
    due.is("wear(0, 1), fifth", room.wear(0, 1), 48);
    due.is("jersey(1, 3)", room.jersey(1, 3), 240);
    due.is("wear(1, 4)", room.wear(1, 4), 0);
    due.is("wear(1, 1)", room.wear(1, 1), 48);
    due.is("wear(1, 20)", room.wear(1, 20), 48);
  }

  private static void wearingHoles() {
    // Holes grow from the sides that they had ahead of it: one cell a time, not more.
    DarnRoom room = Due.taught("card c ply 9 yards 99 price 1;hand h needle 1 pace 9;jersey j cloth 2 elbows 0;"
        + "ticket a for j darn 7 by 6 at 1 on 0 with c then darn 1 by 5 at 0 on 1 with c;");
    due.is("pass(10)", room.pass(10), 47);
    due.is("wear(0, 2)", room.wear(0, 2), 1);
    String nines = "9 9 9 9 9 9 9 9";
    cells(room, 0, "0 9 9 9 9 9 9 9", nines, nines, nines, nines, nines);
    due.is("wear(0, 4)", room.wear(0, 4), 1);
    String fives = "5 5 5 5 5 5 5 5";
    cells(room, 0, "0 1 5 5 5 5 5 5", "1 5 5 5 5 5 5 5", fives, fives, fives, fives);
    due.is("wear(0, 1)", room.wear(0, 1), 3);
    cells(room, 0, "0 0 4 4 4 4 4 4", "0 4 4 4 4 4 4 4", "4 4 4 4 4 4 4 4", "4 4 4 4 4 4 4 4", "4 4 4 4 4 4 4 4", "4 4 4 4 4 4 4 4");
  }

  /** A single hole makes its four sides thinner, and no other cell. */
  private static void wearingBesideOne() {
    DarnRoom room = HolesTest.cloth("........", "........", "........", "....o...");
    String nines = "9 9 9 9 9 9 9 9";
    cells(room, 0, nines, nines, nines, "9 9 9 9 0 9 9 9", nines, nines);
    due.is("wear(0, 1)", room.wear(0, 1), 1);
    String eights = "8 8 8 8 8 8 8 8";
    String beside = "8 8 8 8 7 8 8 8";
    cells(room, 0, eights, eights, beside, "8 8 8 7 0 7 8 8", beside, eights);
    DarnRoom corner = HolesTest.cloth("........", ".......o");
    corner.wear(0, 1);
    cells(corner, 0, "8 8 8 8 8 8 8 7", "8 8 8 8 8 8 7 0", "8 8 8 8 8 8 8 7", eights, eights, eights);
  }

  private static void notWorn() {
    DarnRoom room = Due.taught(WORK);
    room.pass(1);
    due.refuses(room, "wear of one under a hand", NO_STATE, () -> room.wear(0, 1));
    due.refuses(room, "wear(0, 0)", NO_ARGUMENT, () -> room.wear(0, 0));
    due.refuses(room, "wear(1, 0)", NO_ARGUMENT, () -> room.wear(1, 0));
    due.refuses(room, "wear(1, 21)", NO_ARGUMENT, () -> room.wear(1, 21));
    due.refuses(room, "wear(1, -1)", NO_ARGUMENT, () -> room.wear(1, -1));
    due.refuses(room, "wear(2, 1)", NO_INDEX, () -> room.wear(2, 1));
    due.refuses(room, "wear(-1, 0)", NO_INDEX, () -> room.wear(-1, 0));
    due.is("wear(1, 20)", room.wear(1, 20), 48);
  }
}
