/** Promises 15 and 16: tear, patch. */
public final class HolesTest {
  private static final Class<IndexOutOfBoundsException> NO_INDEX = IndexOutOfBoundsException.class;
  private static final Due due = new Due();

  public static void main(String[] args) {
    DarnRoom nothing = new DarnRoom();
    due.refuses(nothing, "tear(0) of nothing", NO_INDEX, () -> nothing.tear(0));
    due.refuses(nothing, "patch(0) of nothing", NO_INDEX, () -> nothing.patch(0));
    DarnRoom room = Due.taught("jersey j cloth 3 elbows 2;jersey k cloth 1 elbows 0;");
    tells(room, "no hole", 0, -1);
    room.wear(0, 1);
    tells(room, "two elbows", 4, 1222);
    due.is("tear(1)", room.tear(1), 0);
    due.is("patch(1)", room.patch(1), -1);
    room.wear(1, 1);
    due.is("tear(1) of holes alone", room.tear(1), 48);
    due.is("patch(1) of holes alone", room.patch(1), 86);
    due.is("tear(0) still", room.tear(0), 4);
    for (int i : new int[] {-1, 2, Integer.MIN_VALUE, Integer.MAX_VALUE}) {
      due.refuses(room, "tear(" + i + ")", NO_INDEX, () -> room.tear(i));
      due.refuses(room, "patch(" + i + ")", NO_INDEX, () -> room.patch(i));
    }
    shapes();
    patchAlone();
    drawn();
    due.end("HolesTest");
  }

  private static void tells(DarnRoom room, String of, int tear, int patch) {
    due.is("tear(0) of " + of, room.tear(0), tear);
    due.is("patch(0) of " + of, room.patch(0), patch);
  }

  /** A cloth of 1, of which some cells are darned, and which is worn once then: the others are holes. */
  private static void shape(String of, int tear, int patch, String... darned) {
    StringBuilder bundle = new StringBuilder("card c ply 9 yards 999 price 1;hand h needle 1 pace 9;jersey j cloth 1 elbows 0;");
    for (int i = 0; i < darned.length; i++) bundle.append("ticket t" + i + " for j darn " + darned[i] + " with c;");
    DarnRoom room = Due.taught(bundle.toString());
    for (int i = 0; i < darned.length; i++) {
      while (room.ticket(i, 0) != 2 && room.count(0) < 11) room.pass(1);
      due.is("ticket " + i + " of " + of + " is done", room.ticket(i, 0), 2);
    }
    room.wear(0, 1);
    tells(room, of, tear, patch);
  }

  private static void shapes() {
    shape("the first row kept", 40, 185, "8 by 1 at 0 on 0");
    shape("the first column kept", 42, 1076, "1 by 6 at 0 on 0");
    shape("a row between, the greater part below", 24, 383, "8 by 1 at 0 on 2");
    shape("a row between, the greater part above", 24, 83, "8 by 1 at 0 on 3");
    shape("a column between", 24, 4046, "1 by 6 at 3 on 0");
    shape("two columns between equal parts", 18, 36, "2 by 6 at 3 on 0");
    shape("equal parts, one above the other", 16, 82, "8 by 2 at 0 on 2");
    shape("a ring", 24, 86, "6 by 4 at 1 on 1");
    shape("an open ring", 23, 86, "6 by 4 at 1 on 1", "1 by 1 at 0 on 0");
    shape("two halves of a ring, the first one right", 11, 1075, "6 by 4 at 1 on 1", "1 by 1 at 0 on 0", "1 by 1 at 7 on 5");
    shape("two halves of a ring, the first one left", 11, 75, "6 by 4 at 1 on 1", "1 by 1 at 7 on 0", "1 by 1 at 0 on 5");
    shape("a hook", 8, 3143, "8 by 1 at 0 on 0", "8 by 2 at 0 on 4", "3 by 3 at 0 on 1", "1 by 3 at 7 on 1",
        "2 by 2 at 4 on 1");
    checkered();
  }

  private static void checkered() {
    DarnRoom room = Due.taught("card c ply 9 yards 24 price 1;hand h needle 1 pace 9;jersey j cloth 1 elbows 0;"
        + "ticket t for j darn 8 by 6 at 0 on 0 with c;ticket u for j darn 1 by 1 at 0 on 0 with c;");
    room.pass(5);
    due.is("wool that ends behind the even cells", room.ticket(0, 2), 24);
    room.wind(0, 24);
    room.pass(3);
    due.is("all cells", room.ticket(0, 0), 2);
    DarnRoom worn = Due.taught("card c ply 9 yards 99 price 1;hand h needle 1 pace 9;jersey j cloth 1 elbows 0;"
        + "ticket t for j darn 1 by 1 at 0 on 0 with c then darn 1 by 1 at 1 on 1 with c then darn 1 by 1 at 2 on 0 with c"
        + " then darn 8 by 4 at 0 on 2 with c then darn 5 by 2 at 3 on 0 with c;");
    worn.pass(6);
    worn.wear(0, 1);
    // Left are the holes (1, 0), (0, 1), (2, 1): beside each other only by their corners.
    due.is("holes", worn.jersey(0, 0), 3);
    tells(worn, "holes at corners", 1, 1011);
  }

  /** Neither of the two calls may lean on the other one ahead of it. */
  private static void patchAlone() {
    DarnRoom room = Due.taught("jersey j cloth 3 elbows 2;jersey k cloth 1 elbows 0;");
    room.wear(0, 1);
    room.wear(1, 1);
    due.is("patch(0) first", room.patch(0), 1222);
    due.is("patch(1) behind it", room.patch(1), 86);
    due.is("tear(0) behind it", room.tear(0), 4);
    due.is("patch(1) again", room.patch(1), 86);
    due.is("patch(0) again", room.patch(0), 1222);
  }

  /** A cloth with holes where the rows have an o, else 9 thick; the rows left out have none. */
  static DarnRoom cloth(String... rows) {
    StringBuilder bundle = new StringBuilder("card c ply 9 yards 999 price 1;hand h needle 1 pace 9;jersey j cloth 1 elbows 0;");
    int steps = 0;
    for (int y = 0; y < 6; y++) {
      String row = y < rows.length ? rows[y] : "........";
      for (int x = 0; x < 8; x++) {
        int wide = 0;
        while (x + wide < 8 && row.charAt(x + wide) == '.') wide++;
        if (wide == 0) continue;
        bundle.append(steps % 6 == 0 ? (steps == 0 ? "" : ";") + "ticket t" + steps + " for j" : " then");
        bundle.append(" darn " + wide + " by 1 at " + x + " on " + y + " with c");
        steps++;
        x += wide;
      }
    }
    DarnRoom room = Due.taught(bundle + ";");
    while (room.count(5) > 0 || room.hand(0, 2) >= 0) room.pass(1);
    if (room.count(0) > 11) due.say("the test's own cloth was worn meanwhile");
    room.wear(0, 1);
    return room;
  }

  private static void drawn() {
    tells(cloth("o......."), "the first cell", 1, 11);
    tells(cloth("........", "........", "........", "........", "........", ".......o"), "the last cell", 1, 7511);
    tells(cloth("...o....", "...o....", ".ooo...."), "a way left", 5, 1033);
    tells(cloth("...o....", "..oo...."), "one left", 3, 2022);
    tells(cloth("o.o.....", "ooo....."), "one up", 5, 32);
    tells(cloth("o.o.....", "o.o.....", "ooo....."), "a way up", 7, 33);
    tells(cloth(".ooo....", ".o.o....", "...oo..."), "ways right and down", 7, 1043);
    tells(cloth(".......o", "........", "oo......", "........"), "a small one right, a greater one left", 2, 221);
    tells(cloth("o......o", ".......o", "........", "ooo....."), "ever greater ones", 3, 331);
    tells(cloth("o.......", "........", ".......o"), "equal ones", 1, 11);
    tells(cloth(".o......", "o......."), "at corners", 1, 1011);
    tells(cloth("......oo", "o......."), "the end of a row and the beginning of the next", 2, 6021);
    tells(cloth(".......o", "o......."), "single ones there", 1, 7011);
    DarnRoom room = cloth("........", "........", "......o.", "......o.", "......o.", "......oo");
    tells(room, "the corner", 5, 6224);
    due.is("teach() of another", Due.teach(room, "jersey j cloth 3 elbows 2;"), 0);
    room.wear(0, 1);
    tells(room, "elbows behind it", 4, 1222);
  }
}
