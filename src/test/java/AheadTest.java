/** Promises 18 to 21: done, lasts, foresee, advise. */
public final class AheadTest {
  private static final String WORK = "card c ply 1 yards 20 price 3;hand h needle 1 pace 2;jersey j cloth 2 elbows 0;"
      + "jersey k cloth 3 elbows 1;ticket a for j darn 5 by 1 at 0 on 0 with c;"
      + "ticket b for j darn 8 by 1 at 0 on 1 with c then darn 2 by 1 at 0 on 2 with c;"
      + "ticket d for k darn 8 by 3 at 0 on 0 with c;";
  private static final Class<IndexOutOfBoundsException> NO_INDEX = IndexOutOfBoundsException.class;
  private static final Class<IllegalArgumentException> NO_ARGUMENT = IllegalArgumentException.class;
  private static final int[] WRONG = {-1, Integer.MIN_VALUE, Integer.MAX_VALUE};
  private static final Due due = new Due();

  public static void main(String[] args) {
    refused();
    donePlain();
    doneAtMost();
    doneInOrder();
    lastsPlain();
    lastsAtMost();
    lastsDarned();
    lastsToOneHole();
    foreseen();
    foreseenFar();
    asPassed();
    changesNothing();
    keepsTheCells();
    advisedNone();
    advisedFirst();
    advisedMost();
    advisedAnyPace();
    advisedBounds();
    due.end("AheadTest");
  }

  private static void refused() {
    DarnRoom room = Due.taught(WORK);
    room.pass(2);
    for (int i : WRONG) {
      due.refuses(room, "done(" + i + ")", NO_INDEX, () -> room.done(i));
      due.refuses(room, "lasts(" + i + ")", NO_INDEX, () -> room.lasts(i));
      due.refuses(room, "foresee(" + i + ", 0)", NO_ARGUMENT, () -> room.foresee(i, 0));
      due.refuses(room, "foresee(1, " + i + ")", NO_INDEX, () -> room.foresee(1, i));
      due.refuses(room, "foresee(" + i + ", " + i + ")", NO_ARGUMENT, () -> room.foresee(i, i));
      due.refuses(room, "advise(" + i + ")", NO_ARGUMENT, () -> room.advise(i));
    }
    due.refuses(room, "done(3)", NO_INDEX, () -> room.done(3));
    due.refuses(room, "lasts(2)", NO_INDEX, () -> room.lasts(2));
    due.refuses(room, "foresee(0, 0)", NO_ARGUMENT, () -> room.foresee(0, 0));
    due.refuses(room, "foresee(121, 0)", NO_ARGUMENT, () -> room.foresee(121, 0));
    due.refuses(room, "foresee(120, 4)", NO_INDEX, () -> room.foresee(120, 4));
    due.refuses(room, "foresee(121, 4)", NO_ARGUMENT, () -> room.foresee(121, 4));
    due.refuses(room, "advise(0)", NO_ARGUMENT, () -> room.advise(0));
    due.refuses(room, "advise(81)", NO_ARGUMENT, () -> room.advise(81));
    DarnRoom nothing = new DarnRoom();
    due.refuses(nothing, "done(0) of nothing", NO_INDEX, () -> nothing.done(0));
    due.refuses(nothing, "lasts(0) of nothing", NO_INDEX, () -> nothing.lasts(0));
    for (int what = 0; what < 4; what++) due.is("foresee(120, " + what + ") of nothing", nothing.foresee(120, what), 0);
    due.is("advise(80) of nothing", nothing.advise(80), -1);
  }

  private static void donePlain() {
    DarnRoom room = Due.taught(WORK);
    due.is("done(0)", room.done(0), 3);
    due.is("done(1)", room.done(1), 8);
    due.is("done(2), its wool ends", room.done(2), -1);
    room.pass(2);
    due.is("done(0) behind two hours", room.done(0), 1);
    due.is("done(1) behind two hours", room.done(1), 6);
    room.pass(1);
    due.is("done(0), done", room.done(0), 0);
    due.is("done(1) behind three hours", room.done(1), 5);
    room.wind(0, 50);
    due.is("done(2), wound", room.done(2), 17);
    room.hurry(2);
    due.is("done(2), hurried", room.done(2), 12);
    due.is("done(1) behind it", room.done(1), 17);
  }

  private static void doneAtMost() {
    DarnRoom room = Due.taught("card c ply 1 yards 99 price 1;hand h needle 1 pace 1;hand g needle 1 pace 1;jersey j cloth 9 elbows 0;"
        + "jersey k cloth 9 elbows 0;ticket a for j when hour = 199 darn 1 by 1 at 0 on 0 with c;"
        + "ticket b for k when hour = 200 darn 1 by 1 at 0 on 0 with c;ticket d for k when hour < 0 darn 1 by 1 at 0 on 0 with c;");
    due.is("done of the last hour", room.done(0), 200);
    due.is("done of the hour behind it", room.done(1), -1);
    due.is("done of what never is", room.done(2), -1);
    room.pass(1);
    due.is("done of the last hour, an hour later", room.done(0), 199);
    due.is("done of the hour behind it, an hour later", room.done(1), 200);
  }

  private static void doneInOrder() {
    DarnRoom room = Due.taught("card c ply 1 yards 99 price 1;hand h needle 1 pace 9;jersey j cloth 9 elbows 0;"
        + "ticket a for j darn 1 by 1 at 0 on 0 with c;ticket b for j darn 1 by 1 at 0 on 0 with c;"
        + "ticket d for j darn 0 by 1 at 0 on 0 with c;");
    for (int t = 0; t < 3; t++) due.is("done(" + t + ")", room.done(t), t + 1);
    room.hurry(2);
    int[] hours = {2, 3, 1};
    for (int t = 0; t < 3; t++) due.is("done(" + t + "), hurried", room.done(t), hours[t]);
    for (int t = 0; t < 3; t++) due.is("ticket(" + t + ", 5) behind it", room.ticket(t, 5), hours[t] - 1);
  }

  private static void lastsPlain() {
    DarnRoom room = Due.taught("jersey j cloth 1 elbows 0;jersey k cloth 5 elbows 0;jersey l cloth 5 elbows 3;jersey m cloth 4 elbows 3;");
    int[] hours = {12, 60, 24, 12};
    for (int j = 0; j < 4; j++) due.is("lasts(" + j + ")", room.lasts(j), hours[j]);
    room.pass(11);
    for (int j = 0; j < 4; j++) due.is("lasts(" + j + ") in hour 11", room.lasts(j), hours[j] - 11);
    room.pass(1);
    due.is("lasts(0) with holes", room.lasts(0), 0);
    due.is("lasts(1) in hour 12", room.lasts(1), 48);
    room.wear(1, 3);
    due.is("lasts(1), worn", room.lasts(1), 12);
    room.wear(1, 1);
    due.is("lasts(1), worn to holes", room.lasts(1), 0);
  }

  private static void lastsAtMost() {
    DarnRoom room = Due.taught("jersey j cloth 16 elbows 0;jersey k cloth 17 elbows 0;");
    due.is("lasts of 16", room.lasts(0), 192);
    due.is("lasts of 17", room.lasts(1), -1);
    room.pass(3);
    due.is("lasts of 17 in hour 3", room.lasts(1), -1);
    room.pass(1);
    due.is("lasts of 17 in hour 4", room.lasts(1), 200);
    due.is("lasts of 16 in hour 4", room.lasts(0), 188);
  }

  private static void lastsDarned() {
    DarnRoom room = Due.taught("card c ply 1 yards 999 price 1;hand h needle 1 pace 4;jersey j cloth 1 elbows 0;"
        + "ticket a for j darn 8 by 6 at 0 on 0 with c;");
    // The ticket is done in hour 11, ahead of the wear of this hour.
    due.is("lasts, darned in time", room.lasts(0), 24);
    DarnRoom slow = Due.taught("card c ply 1 yards 999 price 1;hand h needle 1 pace 1;jersey j cloth 1 elbows 0;"
        + "ticket a for j darn 8 by 6 at 0 on 0 with c;");
    due.is("lasts, under a hand meanwhile", slow.lasts(0), 60);
    DarnRoom held = Due.taught("card c ply 1 yards 0 price 1;hand h needle 1 pace 1;jersey j cloth 1 elbows 0;"
        + "ticket a for j darn 8 by 6 at 0 on 0 with c;");
    due.is("lasts, always under a hand", held.lasts(0), -1);
  }

  private static void lastsToOneHole() {
    DarnRoom room = Due.taught("card c ply 9 yards 47 price 1;hand h needle 1 pace 9;jersey j cloth 1 elbows 0;"
        + "ticket a for j darn 7 by 6 at 0 on 0 with c then darn 1 by 5 at 7 on 0 with c;");
    due.is("lasts to one hole", room.lasts(0), 12);
    room.pass(12);
    due.is("holes then", room.jersey(0, 0), 1);
    due.is("lasts with one hole", room.lasts(0), 0);
  }

  private static void tells(DarnRoom room, int hours, int... want) {
    for (int what = 0; what < 4; what++) {
      due.is("foresee(" + hours + ", " + what + ") in hour " + room.count(0), room.foresee(hours, what), want[what]);
    }
  }

  private static void foreseen() {
    DarnRoom room = Due.taught(WORK);
    tells(room, 1, 2, 0, 0, 6);
    tells(room, 3, 5, 0, 1, 15);
    tells(room, 8, 15, 0, 2, 45);
    tells(room, 20, 20, 0, 2, 60);
    // k is under the hand from hour 8 on, as the wool of its ticket ends; j gets holes where nothing was darned in hour 24.
    tells(room, 24, 20, 33, 2, 60);
    room.pass(3);
    tells(room, 1, 2, 0, 1, 21);
    tells(room, 21, 15, 33, 2, 60);
  }

  private static void foreseenFar() {
    DarnRoom room = Due.taught("card c ply 1 yards 999 price 2;hand h needle 1 pace 1;jersey j cloth 10 elbows 0;"
        + "jersey k cloth 9 elbows 0;ticket a for j when hour >= 119 darn 2 by 1 at 0 on 0 with c;");
    tells(room, 119, 0, 48, 0, 0);
    tells(room, 120, 1, 48, 0, 2);
    room.pass(1);
    tells(room, 120, 2, 48, 1, 4);
  }

  /** What is foreseen is what comes, and nothing of it stays behind. */
  private static void asPassed() {
    DarnRoom room = Due.taught(WORK);
    for (int hours = 1; hours < 20; hours++) {
      int[] want = new int[4];
      for (int what = 0; what < 4; what++) want[what] = room.foresee(hours, what);
      int done = room.done(1);
      int lasts = room.lasts(0);
      int ahead = room.ticket(1, 0);
      due.is("pass(" + hours + ")", room.pass(hours), want[0]);
      due.is("holes behind it", room.count(8), want[1]);
      due.is("done behind it", room.count(6), want[2]);
      due.is("prices behind it", room.count(9), want[3]);
      due.is("whether b is done", room.ticket(1, 0) == 2 ? 1 : 0, ahead == 2 || done >= 0 && done <= hours ? 1 : 0);
      if (lasts > hours) due.is("holes of j", room.jersey(0, 0), 0);
      if (hours == 6) room.wind(0, 99);
    }
  }

  private static void changesNothing() {
    DarnRoom room = Due.taught(WORK);
    room.hurry(1);
    for (int i = 0; i < 12; i++) {
      long digest = room.digest();
      room.done(2);
      room.done(0);
      room.lasts(0);
      room.lasts(1);
      room.foresee(120, 0);
      room.advise(80);
      due.is("digest() in hour " + i, room.digest(), digest);
      due.is("errorAt()", room.errorAt(), -1);
      room.pass(1);
    }
    due.is("the slips", Due.paper(room).equals("b 30\na 15\n") ? 1 : 0, 1);
    String never = "card c ply 1 yards 9 price 1;hand h needle 1 pace 9;jersey j cloth 3 elbows 0;"
        + "ticket a for j when hour > 50 darn 2 by 1 at 0 on 0 with c;ticket b for j when hour > 51 darn 2 by 1 at 0 on 0 with c;";
    DarnRoom looked = Due.taught(never);
    DarnRoom plain = Due.taught(never);
    looked.advise(80);
    looked.done(0);
    looked.pass(60);
    plain.pass(60);
    due.is("digest() behind looking ahead and passing", looked.digest(), plain.digest());
  }

  /** The hand goes on with the cells of its step, though looking ahead went through other steps. */
  private static void keepsTheCells() {
    String work = "card c ply 1 yards 99 price 1;hand h needle 1 pace 1;jersey j cloth 9 elbows 0;"
        + "ticket a for j darn 4 by 1 at 0 on 0 with c then darn 4 by 1 at 4 on 5 with c;";
    DarnRoom looked = Due.taught(work);
    DarnRoom plain = Due.taught(work);
    for (int i = 0; i < 9; i++) {
      due.is("done(0) in hour " + i, looked.done(0), 8 - Math.min(i, 8));
      looked.foresee(6, 0);
      looked.lasts(0);
      looked.advise(7);
      due.is("digest() in hour " + i, looked.digest(), plain.digest());
      looked.pass(1);
      plain.pass(1);
    }
    due.is("digest() at the end", looked.digest(), plain.digest());
  }

  private static String advisable(int cellsOfJ, int cellsOfK) {
    return "card c ply 1 yards 999 price 1;hand h needle 1 pace 1;hand g needle 1 pace 9;jersey j cloth 9 elbows 0;"
        + "jersey k cloth 9 elbows 0;ticket a for j darn 8 by 6 at " + (cellsOfJ - 8) + " on -5 with c;"
        + "ticket b for k darn " + cellsOfK / 4 + " by 4 at 0 on 0 with c;";
  }

  private static void advisedNone() {
    DarnRoom room = Due.taught(advisable(4, 20));
    due.is("advise(1): too few hours for any", room.advise(1), -1);
    due.is("advise(4): all are done", room.advise(4), -1);
    due.is("advise(80): all are done", room.advise(80), -1);
    DarnRoom woolless = Due.taught("card c ply 1 yards 5 price 1;hand h needle 1 pace 1;jersey j cloth 9 elbows 0;"
        + "ticket a for j darn 6 by 1 at 0 on 0 with c;");
    due.is("advise(5): no wool", woolless.advise(5), -1);
  }

  private static void advisedFirst() {
    DarnRoom room = Due.taught(advisable(4, 20));
    due.is("cells of a", room.pass(1) - 9 + room.hand(0, 4), 4);
    DarnRoom both = Due.taught(advisable(4, 20));
    due.is("advise(2): one more by either", both.advise(2), 0);
    due.is("advise(3): one more by the first alone", both.advise(3), 0);
    DarnRoom second = Due.taught(advisable(5, 20));
    due.is("advise(2): one more by the second alone", second.advise(2), 1);
  }

  private static void advisedMost() {
    DarnRoom room = Due.taught("card c ply 1 yards 999 price 1;hand h needle 1 pace 1;hand g needle 1 pace 2;"
        + "jersey j cloth 9 elbows 0;jersey k cloth 9 elbows 0;ticket a for j darn 6 by 1 at 0 on 0 with c;"
        + "ticket b for k darn 3 by 1 at 0 on 0 with c;ticket d for k darn 3 by 1 at 0 on 0 with c;"
        + "ticket e for k darn 3 by 1 at 0 on 0 with c;ticket f for k darn 3 by 1 at 0 on 0 with c;");
    due.is("advise(4): one more by the first, two by the second", room.advise(4), 1);
    due.is("hand(1, 1) behind it", room.hand(1, 1), 2);
    due.is("advise(4) again", room.advise(4), 1);
  }

  private static void advisedAnyPace() {
    DarnRoom room = Due.taught("card c ply 1 yards 999 price 1;hand h needle 1 pace 9;jersey j cloth 9 elbows 0;"
        + "ticket a for j darn 5 by 4 at 0 on 0 with c;");
    due.is("advise(2): pace 10", room.advise(2), 0);
    due.is("advise(1)", room.advise(1), -1);
    due.is("hand(0, 1)", room.hand(0, 1), 9);
  }

  private static void advisedBounds() {
    String before = "card c ply 1 yards 999 price 1;hand h needle 1 pace 1;jersey j cloth 20 elbows 0;ticket a for j when hour >= ";
    String behind = " darn 2 by 1 at 0 on 0 with c;";
    due.is("advise(80) of hour 79", Due.taught(before + 79 + behind).advise(80), 0);
    due.is("advise(79) of hour 79", Due.taught(before + 79 + behind).advise(79), -1);
    due.is("advise(80) of hour 80", Due.taught(before + 80 + behind).advise(80), -1);
    due.is("advise(1) of hour 0", Due.taught(before + 0 + behind).advise(1), 0);
  }
}
