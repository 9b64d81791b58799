import java.util.ArrayList;
import java.util.List;

/** The edges of jerseys, and of the steps that darn them, a function for each sentence. */
public final class EdgesOfClothTest {
  private static final Class<IndexOutOfBoundsException> NO_INDEX = IndexOutOfBoundsException.class;
  private static final String LEAST = "((0-65536)*32768)";
  private static final String MOST = "(65535*32768+32767)";
  private static final Due due = new Due();

  public static void main(String[] args) {
    eightBySix();
    asThickAsItsCloth();
    atMostThirty();
    nothingIsAHole();
    elbows();
    besideEachOther();
    besideSeveral();
    oneThinner();
    atLeastNothing();
    cellsBeside();
    cellsBelow();
    holesAndOthers();
    asFarAsTheCloth();
    doesNotWrapAround();
    noneIfNothingOrLess();
    asTheStepBegins();
    wovenOrder();
    wovenOrderOfParts();
    needleOfTheHand();
    due.end("EdgesOfClothTest");
  }

  private static boolean isElbow(int x, int y) {
    return (y == 2 || y == 3) && (x == 1 || x == 2 || x == 5 || x == 6);
  }

  private static void eightBySix() {
    due.says("Each is a cloth of 8 cells side by side (x 0 to 7) in 6 rows (y 0 to 5)");
    DarnRoom room = Due.taught("jersey j cloth 7 elbows 0;");
    for (int x = -2; x <= 9; x++) {
      for (int y = -2; y <= 7; y++) {
        int atX = x;
        int atY = y;
        boolean on = x >= 0 && x <= 7 && y >= 0 && y <= 5;
        if (on) due.is("cell(0, " + x + ", " + y + ")", room.cell(0, x, y), 7);
        else due.refuses(room, "cell(0, " + x + ", " + y + ")", NO_INDEX, () -> room.cell(0, atX, atY));
      }
    }
    due.is("jersey(0, 3), all 48", room.jersey(0, 3), 48 * 7);
  }

  private static void asThickAsItsCloth() {
    due.says("each cell is as thick as its cloth tells, at first");
    for (int cloth = 1; cloth <= 20; cloth++) {
      DarnRoom room = Due.taught("jersey i cloth 3 elbows 3;jersey j cloth " + cloth + " elbows 3;");
      for (int cell = 0; cell < 48; cell++) due.is("cell " + cell, room.cell(1, cell % 8, cell / 8), cloth);
    }
  }

  /** How thick a cell of a cloth is behind each of some stitches. */
  private static void thickens(int cloth, int ply, int... thick) {
    DarnRoom room = Due.taught("card c ply " + ply + " yards 9 price 7;hand h needle 1 pace 1;jersey j cloth " + cloth + " elbows 0;"
        + "ticket t for j darn 1 by 1 at 7 on 5 with c" + Rooms.times(thick.length - 1, " then darn 1 by 1 at 7 on 5 with c") + ";");
    for (int i = 0; i < thick.length; i++) {
      due.is("a stitch", room.pass(1), 1);
      due.is("cell of cloth " + cloth + ", ply " + ply + ", stitch " + i, room.cell(0, 7, 5), thick[i]);
      due.is("card(0, 1)", room.card(0, 1), 8 - i);
      due.is("ticket(0, 2)", room.ticket(0, 2), 1 + i);
      due.is("ticket(0, 3)", room.ticket(0, 3), 7 * (1 + i));
    }
  }

  private static void atMostThirty() {
    due.says("the next one is thicker by the ply of the card (at most 30)");
    thickens(20, 9, 29, 30, 30, 30);
    thickens(12, 9, 21, 30, 30);
    thickens(11, 9, 20, 29, 30, 30);
    thickens(13, 9, 22, 30, 30);
    thickens(20, 5, 25, 30, 30);
    thickens(20, 2, 22, 24, 26, 28, 30, 30);
    thickens(19, 2, 21, 23, 25, 27, 29, 30);
    thickens(1, 1, 2, 3);
  }

  private static void nothingIsAHole() {
    due.says("a cell of 0 is a hole");
    DarnRoom room = Due.taught("jersey j cloth 2 elbows 0;");
    room.wear(0, 1);
    due.is("cell(0, 0, 0)", room.cell(0, 0, 0), 1);
    due.is("jersey(0, 0) of 1", room.jersey(0, 0), 0);
    due.is("count(8) of 1", room.count(8), 0);
    due.is("tear(0) of 1", room.tear(0), 0);
    due.is("patch(0) of 1", room.patch(0), -1);
    due.is("lasts(0) of 1", room.lasts(0), 12);
    room.wear(0, 1);
    due.is("cell(0, 0, 0)", room.cell(0, 0, 0), 0);
    due.is("jersey(0, 0) of 0", room.jersey(0, 0), 48);
    due.is("count(8) of 0", room.count(8), 48);
    due.is("tear(0) of 0", room.tear(0), 48);
    due.is("patch(0) of 0", room.patch(0), 86);
    due.is("lasts(0) of 0", room.lasts(0), 0);
  }

  private static void elbows() {
    due.says("Elbows are the cells with y 2 or 3 and x 1, 2, 5 or 6.");
    for (int elbows = 0; elbows <= 3; elbows++) {
      DarnRoom room = Due.taught("jersey j cloth 9 elbows " + elbows + ";");
      due.is("wear(0, 1)", room.wear(0, 1), 0);
      for (int y = 0; y < 6; y++) {
        for (int x = 0; x < 8; x++) due.is("cell(0, " + x + ", " + y + ")", room.cell(0, x, y), isElbow(x, y) ? 8 - elbows : 8);
      }
    }
  }

  /** A cloth of 9 with holes at some cells. */
  private static DarnRoom holesAt(int... holes) {
    char[] signs = Rooms.times(48, ".").toCharArray();
    for (int hole : holes) signs[hole] = 'o';
    String[] rows = new String[6];
    for (int y = 0; y < 6; y++) rows[y] = new String(signs, 8 * y, 8);
    return HolesTest.cloth(rows);
  }

  private static void besideEachOther() {
    due.says("Two cells are beside each other, if they are next to each other in a row, or one above the other.");
    for (int hole = 0; hole < 48; hole++) {
      DarnRoom room = holesAt(hole);
      due.is("wear(0, 1)", room.wear(0, 1), 1);
      for (int cell = 0; cell < 48; cell++) {
        int away = Math.abs(cell % 8 - hole % 8) + Math.abs(cell / 8 - hole / 8);
        due.is("cell " + cell + " with the hole " + hole, room.cell(0, cell % 8, cell / 8), away == 0 ? 0 : away == 1 ? 7 : 8);
      }
    }
    due.is("holes beside each other in a row", holesAt(20, 21).tear(0), 2);
    due.is("holes one above the other", holesAt(20, 28).tear(0), 2);
    due.is("holes at a corner", holesAt(20, 29).tear(0), 1);
    due.is("holes at the other corner", holesAt(20, 27).tear(0), 1);
    due.is("the end of a row and the beginning of the next", holesAt(15, 16).tear(0), 1);
    due.is("two apart", holesAt(20, 22).tear(0), 1);
    due.is("two rows apart", holesAt(4, 20).tear(0), 1);
  }

  private static void besideSeveral() {
    due.says("and one beside a hole 1 more");
    int[][] holes = {{19}, {19, 21}, {19, 21, 12}, {19, 21, 12, 28}};
    for (int[] around : holes) {
      DarnRoom room = holesAt(around);
      room.wear(0, 1);
      due.is("cell 20 beside " + around.length + " holes", room.cell(0, 4, 2), 7);
    }
    // An elbow beside a hole: 1, its elbows, and 1 more.
    for (int elbows = 0; elbows <= 3; elbows++) {
      DarnRoom room = Due.taught("card c ply 9 yards 99 price 1;hand h needle 1 pace 9;jersey j cloth 1 elbows " + elbows + ";"
          + "ticket t for j darn 2 by 1 at 1 on 2 with c;");
      room.pass(1);
      due.is("wear(0, 1)", room.wear(0, 1), 46);
      due.is("cell(0, 1, 2)", room.cell(0, 1, 2), 9 - elbows);
      due.is("wear(0, 1) again", room.wear(0, 1), 46);
      due.is("cell(0, 1, 2) beside holes", room.cell(0, 1, 2), 9 - elbows - 1 - elbows - 1);
      due.is("cell(0, 2, 2) beside holes", room.cell(0, 2, 2), 9 - elbows - 1 - elbows - 1);
    }
  }

  /** A cell that some stitches made as thick as this is worn once. */
  private static void wornOnce(int cloth, int ply, int stitches, int thick) {
    DarnRoom room = Due.taught("card c ply " + ply + " yards 9 price 1;hand h needle 1 pace 9;jersey j cloth " + cloth
        + " elbows 0;ticket t for j darn 1 by 1 at 4 on 5 with c" + Rooms.times(stitches - 1, " then darn 1 by 1 at 4 on 5 with c") + ";");
    room.pass(1);
    due.is("cell(0, 4, 5)", room.cell(0, 4, 5), thick);
    room.wear(0, 1);
    due.is("cell(0, 4, 5) of " + thick + ", worn", room.cell(0, 4, 5), thick - 1);
  }

  private static void oneThinner() {
    due.says("each cell that is no hole is 1 thinner");
    for (int thick = 2; thick <= 29; thick++) wornOnce(Math.max(1, thick - 9), Math.min(9, thick - 1), 1, thick);
    wornOnce(20, 5, 2, 30);
    wornOnce(20, 9, 6, 30);
  }

  private static void atLeastNothing() {
    due.says("each cell that is no hole is 1 thinner ... (at least 0)");
    for (int cloth = 1; cloth <= 6; cloth++) {
      for (int elbows = 0; elbows <= 3; elbows++) {
        DarnRoom room = Due.taught("jersey j cloth " + cloth + " elbows " + elbows + ";");
        int elbow = Math.max(0, cloth - 1 - elbows);
        due.is("wear(0, 1)", room.wear(0, 1), (cloth == 1 ? 40 : 0) + (elbow == 0 ? 8 : 0));
        due.is("cell(0, 6, 3)", room.cell(0, 6, 3), elbow);
        due.is("cell(0, 7, 3)", room.cell(0, 7, 3), cloth - 1);
        due.is("jersey(0, 3)", room.jersey(0, 3), 8 * elbow + 40 * (cloth - 1));
      }
    }
    DarnRoom gone = Due.taught("jersey j cloth 1 elbows 3;");
    for (int i = 0; i < 5; i++) {
      due.is("wear(0, 20)", gone.wear(0, 20), 48);
      due.is("jersey(0, 3)", gone.jersey(0, 3), 0);
    }
  }

  /** The cells of a step are these, of 5 thick ones, and no others. */
  private static void darns(String wide, String high, String left, String top, int fromX, int toX, int fromY, int toY) {
    String step = "darn " + wide + " by " + high + " at " + left + " on " + top;
    DarnRoom room = Due.taught("card c ply 2 yards 99 price 1;hand h needle 1 pace 9;jersey j cloth 5 elbows 0;ticket t for j "
        + step + " with c;");
    int many = Math.max(0, toX - fromX + 1) * Math.max(0, toY - fromY + 1);
    due.is("stitches of " + step, room.pass(6), many);
    due.is("state of " + step, room.ticket(0, 0), 2);
    for (int y = 0; y < 6; y++) {
      for (int x = 0; x < 8; x++) {
        boolean darned = x >= fromX && x <= toX && y >= fromY && y <= toY;
        due.is("cell(0, " + x + ", " + y + ") of " + step, room.cell(0, x, y), darned ? 7 : 5);
      }
    }
  }

  private static void cellsBeside() {
    due.says("A step darns the cells with x from the number behind at on, as many as the number behind darn");
    for (int left = -4; left <= 9; left++) {
      for (int wide = 1; wide <= 12; wide++) {
        darns("" + wide, "1", "0" + (left < 0 ? "" + left : "+" + left), "3", Math.max(0, left), Math.min(7, left + wide - 1), 3, 3);
      }
    }
  }

  private static void cellsBelow() {
    due.says("and y from the number behind on on, as many as that behind by");
    for (int top = -4; top <= 7; top++) {
      for (int high = 1; high <= 10; high++) {
        darns("1", "" + high, "6", "0" + (top < 0 ? "" + top : "+" + top), 6, 6, Math.max(0, top), Math.min(5, top + high - 1));
      }
    }
  }

  private static void holesAndOthers() {
    due.says("A step darns the cells, whether they are holes or not");
    DarnRoom room = Due.taught("card c ply 9 yards 99 price 1;card d ply 2 yards 99 price 1;hand h needle 1 pace 9;jersey j cloth 1 elbows 0;"
        + "ticket t for j darn 4 by 1 at 0 on 0 with c;ticket u for j when holes j = 44 darn 6 by 2 at 1 on 0 with d;");
    room.pass(1);
    due.is("wear(0, 1)", room.wear(0, 1), 44);
    due.is("pass(2)", room.pass(2), 12);
    due.is("ticket(1, 0)", room.ticket(1, 0), 2);
    for (int y = 0; y < 6; y++) {
      for (int x = 0; x < 8; x++) {
        int before = y == 0 && x < 4 ? 9 : 0;
        due.is("cell(0, " + x + ", " + y + ")", room.cell(0, x, y), y < 2 && x > 0 && x < 7 ? before + 2 : before);
      }
    }
  }

  private static void asFarAsTheCloth() {
    due.says("as far as they are cells of the cloth");
    darns("8", "6", "0", "0", 0, 7, 0, 5);
    darns("9", "7", "-1", "-1", 0, 7, 0, 5);
    darns("999999", "999999", "-999", "-999", 0, 7, 0, 5);
    darns("1", "1", "0", "0", 0, 0, 0, 0);
    darns("1", "1", "7", "5", 7, 7, 5, 5);
    darns("2", "2", "7", "5", 7, 7, 5, 5);
    darns("2", "2", "-1", "-1", 0, 0, 0, 0);
    darns("2", "2", "-2", "-1", 0, -1, 0, -1);
    darns("2", "2", "-1", "-2", 0, -1, 0, -1);
    darns("1", "1", "8", "5", 0, -1, 0, -1);
    darns("1", "1", "7", "6", 0, -1, 0, -1);
    darns("3", "3", "6", "4", 6, 7, 4, 5);
  }

  private static void doesNotWrapAround() {
    due.says("(numbers as they are as the step begins; this does not wrap around");
    darns(MOST, MOST, "0", "0", 0, 7, 0, 5);
    darns(MOST, MOST, "1", "1", 1, 7, 1, 5);
    darns(MOST, "1", "7", "0", 7, 7, 0, 0);
    darns("1", MOST, "0", "5", 0, 0, 5, 5);
    darns(MOST, "1", "8", "0", 0, -1, 0, -1);
    darns("8", "6", MOST, "0", 0, -1, 0, -1);
    darns("8", "6", "0", MOST, 0, -1, 0, -1);
    darns(MOST, MOST, MOST, MOST, 0, -1, 0, -1);
    darns(MOST, "1", LEAST, "0", 0, -1, 0, -1);
    darns(MOST, "1", LEAST + "+1", "0", 0, -1, 0, -1);
    darns(MOST, "1", LEAST + "+2", "0", 0, 0, 0, 0);
    darns(MOST, "1", LEAST + "+8", "0", 0, 6, 0, 0);
    darns(MOST, "1", LEAST + "+9", "0", 0, 7, 0, 0);
    darns(MOST, "1", LEAST + "+10", "0", 0, 7, 0, 0);
    darns("1", MOST, "3", LEAST, 0, -1, 0, -1);
    darns("1", MOST, "3", LEAST + "+1", 0, -1, 0, -1);
    darns("1", MOST, "3", LEAST + "+2", 3, 3, 0, 0);
    darns("1", MOST, "3", LEAST + "+6", 3, 3, 0, 4);
    darns("1", MOST, "3", LEAST + "+7", 3, 3, 0, 5);
  }

  private static void noneIfNothingOrLess() {
    due.says("none, if a number of cells is 0 or less");
    for (String many : new String[] {"0", "-1", "-8", "-999999", LEAST, LEAST + "+1", "(1-2)"}) {
      darns(many, "6", "0", "0", 0, -1, 0, -1);
      darns("8", many, "0", "0", 0, -1, 0, -1);
      darns(many, many, "0", "0", 0, -1, 0, -1);
      darns(many, "6", "7", "0", 0, -1, 0, -1);
      darns("8", many, "0", "5", 0, -1, 0, -1);
      darns(many, MOST, LEAST, LEAST, 0, -1, 0, -1);
    }
    darns("1", "6", "0", "0", 0, 0, 0, 5);
    darns("8", "1", "0", "0", 0, 7, 0, 0);
  }

  private static void asTheStepBegins() {
    due.says("numbers as they are as the step begins");
    DarnRoom room = Due.taught("card c ply 1 yards 8 price 1;hand h needle 1 pace 1;jersey j cloth 5 elbows 0;"
        + "ticket s for j when hour > 99 " + Rooms.STEP + ";"
        + "ticket t for j darn wool c by waits at hour on hour with c then darn 1 by 1 at wool c on hour with c;");
    due.is("the first stitch", room.pass(1), 1);
    // Eight cells of one row: the wool ahead of the first stitch, and one ticket waits, as this one does not any more.
    due.is("hand(0, 4)", room.hand(0, 4), 7);
    due.is("cell(0, 0, 0)", room.cell(0, 0, 0), 6);
    due.is("six more", room.pass(6), 6);
    due.is("hand(0, 4)", room.hand(0, 4), 1);
    due.is("wind(0, 4)", room.wind(0, 4), 5);
    due.is("the last one", room.pass(1), 1);
    // The next step begins behind this stitch, in hour 7, with 4 yards; 7 is below the cloth, so that it has no cells.
    due.is("ticket(1, 4)", room.ticket(1, 4), 7);
    due.is("ticket(1, 2)", room.ticket(1, 2), 8);
  }

  private static List<Integer> order(int needle, int left, int top, int wide, int high) {
    List<Integer> even = new ArrayList<>();
    List<Integer> others = new ArrayList<>();
    for (int y = top; y < top + high; y++) {
      for (int x = left; x < left + wide; x++) {
        if ((x / needle + y) % 2 == 0) even.add(8 * y + x);
        else others.add(8 * y + x);
      }
    }
    even.addAll(others);
    return even;
  }

  private static void weaves(int needle, int left, int top, int wide, int high) {
    DarnRoom room = Due.taught("card c ply 3 yards 99 price 1;hand h needle " + needle + " pace 1;jersey j cloth 5 elbows 0;"
        + "ticket t for j when hour > 0 darn " + wide + " by " + high + " at " + left + " on " + top + " with c;");
    // An hour without stitches, so that the last one is not made in an hour in which the jersey is worn.
    due.is("the hour 0", room.pass(1), 0);
    List<Integer> order = order(needle, left, top, wide, high);
    for (int i = 0; i < order.size(); i++) {
      int x = order.get(i) % 8;
      int y = order.get(i) / 8;
      due.is("cell " + order.get(i) + " ahead of stitch " + i + " of needle " + needle, room.cell(0, x, y), 5);
      due.is("a stitch", room.pass(1), 1);
      due.is("cell " + order.get(i) + " behind stitch " + i + " of needle " + needle, room.cell(0, x, y), 8);
      due.is("all cells", room.jersey(0, 3), 48 * 5 + 3 * (i + 1));
    }
    due.is("ticket(0, 4)", room.ticket(0, 4), order.size());
  }

  private static void wovenOrder() {
    due.says("first those of which x / needle and y, added, is even, row by row from y 0 on, in each from x 0 on; then all others, likewise");
    for (int needle = 1; needle <= 4; needle++) weaves(needle, 0, 0, 8, 6);
    int[] firstOfTwo = {0, 1, 4, 5, 10, 11, 14, 15, 16, 17, 20, 21};
    List<Integer> order = order(2, 0, 0, 8, 6);
    for (int i = 0; i < firstOfTwo.length; i++) due.is("the test's own order", order.get(i), firstOfTwo[i]);
  }

  private static void wovenOrderOfParts() {
    due.says("first those of which x / needle and y, added, is even");
    for (int needle = 1; needle <= 4; needle++) {
      weaves(needle, 1, 0, 2, 2);
      weaves(needle, 3, 1, 5, 4);
      weaves(needle, 7, 0, 1, 6);
      weaves(needle, 0, 5, 8, 1);
      weaves(needle, 2, 3, 1, 1);
      weaves(needle, 5, 1, 3, 3);
    }
  }

  private static void needleOfTheHand() {
    due.says("The needle is that of the hand.");
    DarnRoom room = Due.taught("card c ply 3 yards 99 price 1;hand h needle 4 pace 1;hand g needle 1 pace 1;jersey j cloth 5 elbows 0;"
        + "jersey k cloth 5 elbows 0;ticket t for j darn 8 by 1 at 0 on 0 with c;ticket u for k darn 8 by 1 at 0 on 0 with c;");
    room.pass(2);
    int[] wide = {8, 8, 5, 5};
    int[] narrow = {8, 5, 8, 5};
    for (int x = 0; x < 4; x++) {
      due.is("cell(0, " + x + ", 0)", room.cell(0, x, 0), wide[x]);
      due.is("cell(1, " + x + ", 0)", room.cell(1, x, 0), narrow[x]);
    }
  }
}
