import java.util.ArrayList;
import java.util.Arrays;
import java.util.LinkedHashMap;
import java.util.List;
import java.util.Map;

/** What a call changes, and that it changes nothing else: all answers of a room ahead of it and behind it are compared. */
public final class ChangesTest {
  private static final String WORK = "card c ply 2 yards 50 price 3;card d ply 1 yards 7 price 1;hand h needle 1 pace 3;"
      + "jersey j cloth 2 elbows 1;jersey k cloth 5 elbows 0;ticket t for k darn 3 by 1 at 0 on 0 with c;"
      + "ticket u for k darn 8 by 1 at 0 on 1 with c;ticket v for j darn 1 by 1 at 0 on 0 with d;ticket w for j darn 2 by 1 at 0 on 0 with d;";
  private static final Due due = new Due();

  public static void main(String[] args) {
    language();
    things();
    wearing();
    anHour();
    thePaper();
    asking();
    aheadOfThem();
    tapeStays();
    due.end("ChangesTest");
  }

  private interface Change {
    void on(DarnRoom room);
  }

  /** The ticket t is done, u is at the hand, v and w wait; the latest teach() had an error, and the tape has 7 bytes. */
  private static DarnRoom working() {
    DarnRoom room = Due.taught(WORK);
    room.pass(2);
    Due.teach(room, "hand");
    Due.feed(room, "jersey ");
    return room;
  }

  private static Map<String, Object> answers(DarnRoom room) {
    Map<String, Object> all = new LinkedHashMap<>();
    all.put("errorAt()", room.errorAt());
    for (int what = 0; what < 12; what++) all.put("count(" + what + ")", room.count(what));
    for (int i = 0; i < 2; i++) {
      for (int what = 0; what < 3; what++) all.put("card(" + i + ", " + what + ")", room.card(i, what));
    }
    for (int what = 0; what < 6; what++) all.put("hand(0, " + what + ")", room.hand(0, what));
    for (int i = 0; i < 2; i++) {
      for (int what = 0; what < 4; what++) all.put("jersey(" + i + ", " + what + ")", room.jersey(i, what));
      all.put("tear(" + i + ")", room.tear(i));
      all.put("patch(" + i + ")", room.patch(i));
      for (int cell = 0; cell < 48; cell++) all.put("cell(" + i + ", " + cell % 8 + ", " + cell / 8 + ")", room.cell(i, cell % 8, cell / 8));
    }
    for (int i = 0; i < 4; i++) {
      for (int what = 0; what < 8; what++) all.put("ticket(" + i + ", " + what + ")", room.ticket(i, what));
    }
    all.put("the paper", Due.paper(room));
    all.put("mean()", room.mean());
    return all;
  }

  /** What is told otherwise behind a call than ahead of it has to be this, each as the call and its new answer. */
  private static void changes(String call, Change change, String... wanted) {
    DarnRoom room = working();
    Map<String, Object> before = answers(room);
    change.on(room);
    List<String> told = new ArrayList<>();
    for (Map.Entry<String, Object> answer : answers(room).entrySet()) {
      if (!answer.getValue().equals(before.get(answer.getKey()))) told.add(answer.getKey() + " " + answer.getValue());
    }
    List<String> want = new ArrayList<>(Arrays.asList(wanted));
    told.sort(null);
    want.sort(null);
    due.holds(call + " changes " + told + "; that this is " + want, told.equals(want));
  }

  private static void language() {
    changes("feed", room -> room.feed(1, 2, 3, 4, 5), "count(11) 27");
    changes("trim(3)", room -> room.trim(3), "count(11) 3");
    changes("trim(7)", room -> room.trim(7));
    changes("teach() with an error", room -> room.teach(), "count(11) 0", "errorAt() 7");
    changes("teach() with error 5", room -> Due.teach(room, "h cloth 0 elbows 0;"), "count(11) 0", "errorAt() 15");
  }

  private static void things() {
    changes("wind(1, 10)", room -> room.wind(1, 10), "card(1, 1) 17");
    changes("hurry(3)", room -> room.hurry(3), "ticket(3, 5) 0", "ticket(2, 5) 1");
    changes("hurry(2)", room -> room.hurry(2));
  }

  private static void wearing() {
    List<String> want = new ArrayList<>(List.of("count(8) 8", "jersey(0, 0) 8", "jersey(0, 1) 0", "jersey(0, 3) 40", "tear(0) 4", "patch(0) 1222"));
    for (int y = 0; y < 6; y++) {
      for (int x = 0; x < 8; x++) {
        boolean elbow = (y == 2 || y == 3) && x % 4 > 0 && x % 4 < 3;
        want.add("cell(0, " + x + ", " + y + ") " + (elbow ? 0 : 1));
      }
    }
    changes("wear(0, 1)", room -> room.wear(0, 1), want.toArray(new String[0]));
  }

  private static void anHour() {
    // Of the row 1 the cells 1, 3 and 5 are woven; 7, 0 and 2 are next.
    changes("pass(1)", room -> room.pass(1), "count(0) 3", "count(7) 9", "count(9) 27", "card(0, 1) 41", "hand(0, 4) 2", "hand(0, 5) 9",
        "ticket(1, 2) 6", "ticket(1, 3) 18", "jersey(1, 3) 258", "cell(1, 7, 1) 7", "cell(1, 0, 1) 7", "cell(1, 2, 1) 7");
    // An hour later the hand has woven all, and the ticket is done.
    changes("pass(2)", room -> room.pass(2), "count(0) 4", "count(6) 2", "count(7) 11", "count(9) 33", "count(10) 9", "card(0, 1) 39",
        "hand(0, 2) -1", "hand(0, 3) -1", "hand(0, 4) 0", "hand(0, 5) 11", "ticket(1, 0) 2", "ticket(1, 1) -1", "ticket(1, 2) 8", "ticket(1, 3) 24",
        "ticket(1, 4) 3", "jersey(1, 2) -1", "jersey(1, 3) 262", "cell(1, 7, 1) 7", "cell(1, 0, 1) 7", "cell(1, 2, 1) 7", "cell(1, 4, 1) 7",
        "cell(1, 6, 1) 7", "the paper t 9\nu 24\n", "mean() 16.5");
  }

  private static void thePaper() {
    changes("clear()", room -> room.clear(), "count(10) 0", "the paper ");
  }

  private static void asking() {
    changes("count", room -> room.count(7));
    changes("errorAt", room -> room.errorAt());
    changes("card", room -> room.card(0, 1));
    changes("hand", room -> room.hand(0, 4));
    changes("cell", room -> room.cell(1, 0, 0));
    changes("jersey", room -> room.jersey(1, 2));
    changes("ticket", room -> room.ticket(2, 5));
    changes("tear", room -> room.tear(0));
    changes("patch", room -> room.patch(1));
    changes("byteAt", room -> room.byteAt(2));
    changes("mean", room -> room.mean());
    changes("digest", room -> room.digest());
  }

  private static void aheadOfThem() {
    for (int i = 0; i < 4; i++) {
      int asked = i;
      changes("done(" + i + ")", room -> room.done(asked));
      changes("lasts(" + i % 2 + ")", room -> room.lasts(asked % 2));
      changes("foresee(120, " + i + ")", room -> room.foresee(120, asked));
    }
    changes("advise(80)", room -> room.advise(80));
  }

  /** What is on the tape stays as it was fed, whatever else is done, until it is taught. */
  private static void tapeStays() {
    DarnRoom room = working();
    room.trim(0);
    Due.feed(room, "hand first needle 3 pace 1;");
    room.wind(0, 1);
    room.hurry(3);
    room.wear(0, 1);
    room.pass(30);
    room.done(3);
    room.lasts(1);
    room.foresee(9, 1);
    room.advise(9);
    room.clear();
    due.refuses(room, "trim(28)", IllegalArgumentException.class, () -> room.trim(28));
    Due.feed(room, " hand second needle 2 pace 5;");
    room.pass(1);
    room.digest();
    due.is("teach() of all of it", room.teach(), 0);
    due.is("count(2)", room.count(2), 2);
    due.is("hand(0, 0)", room.hand(0, 0), 3);
    due.is("hand(1, 1)", room.hand(1, 1), 5);
    due.is("count(0)", room.count(0), 33);
  }
}
