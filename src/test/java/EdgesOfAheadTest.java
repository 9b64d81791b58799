import java.math.BigInteger;
import java.util.ArrayList;
import java.util.List;

/** The edges of the calls of promises 18 to 25, a function for each sentence. */
public final class EdgesOfAheadTest {
  private static final Class<IndexOutOfBoundsException> NO_INDEX = IndexOutOfBoundsException.class;
  private static final Class<IllegalArgumentException> NO_ARGUMENT = IllegalArgumentException.class;
  private static final int[] FAR = {Integer.MIN_VALUE, Integer.MIN_VALUE + 1, -65536, -256, -120, -80, -2, 256, 65536, Integer.MAX_VALUE};
  private static final String WOOL = "card c ply 1 yards 999 price 3;";
  private static final String HAND = "hand h needle 1 pace 1;";
  private static final String JERSEYS = "jersey j cloth 20 elbows 0;jersey k cloth 20 elbows 0;jersey l cloth 20 elbows 0;jersey m cloth 20 elbows 0;";
  private static final String ALL_CELLS = "darn 8 by 6 at 0 on 0 with c";
  private static final String WORK = "card c ply 1 yards 30 price 3;hand h needle 1 pace 2;hand g needle 2 pace 3;jersey j cloth 2 elbows 0;"
      + "jersey k cloth 3 elbows 1;ticket a for j darn 5 by 1 at 0 on 0 with c;"
      + "ticket b for j darn 8 by 1 at 0 on 1 with c then darn 2 by 1 at 0 on 2 with c;"
      + "ticket d for k when hour > 2 darn 8 by 3 at 0 on 0 with c;ticket e for k when hour > 500 darn 1 by 1 at 0 on 0 with c;";
  private static final Due due = new Due();

  public static void main(String[] args) {
    doneIfItIs();
    doneAtMost();
    doneByStitches();
    doneNotByThen();
    doneRefuses();
    lastsIfItHasOne();
    lastsAtMost();
    lastsNotByThen();
    lastsRefuses();
    foreseesWhatComes();
    foreseesNothing();
    foreseeRefuses();
    adviseHours();
    adviseEachHand();
    adviseSmallest();
    adviseMost();
    adviseNone();
    advisePaceOfTen();
    adviseRefuses();
    nothingIsChanged();
    goesOnAsBefore();
    byteAt();
    clear();
    mean();
    meanOfNone();
    digest();
    digestOfEach();
    due.end("EdgesOfAheadTest");
  }

  /** A ticket of so many stitches: all cells, as often as it has to be, and the rest in rows. */
  private static String stitches(String name, String jersey, int many) {
    List<String> steps = new ArrayList<>();
    for (int i = 0; i < many / 48; i++) steps.add(ALL_CELLS);
    int rest = many % 48;
    if (rest >= 8) steps.add("darn 8 by " + rest / 8 + " at 0 on 0 with c");
    if (rest % 8 != 0) steps.add("darn " + rest % 8 + " by 1 at 0 on 0 with c");
    return "ticket " + name + " for " + jersey + " " + String.join(" then ", steps) + ";";
  }

  private static void doneIfItIs() {
    due.says("Returns behind how many hours it is done, if nothing is done by others: 0 if it is");
    DarnRoom room = Due.taught(WOOL + HAND + JERSEYS + stitches("t", "j", 3) + stitches("u", "j", 2));
    int[] first = {3, 2, 1, 0, 0, 0, 0};
    int[] second = {5, 4, 3, 2, 1, 0, 0};
    for (int hour = 0; hour < 7; hour++) {
      due.is("done(0) in hour " + hour, room.done(0), first[hour]);
      due.is("done(1) in hour " + hour, room.done(1), second[hour]);
      due.is("whether it is", room.ticket(0, 0) == 2 ? 0 : 1, Math.min(1, first[hour]));
      room.pass(1);
    }
  }

  private static void doneAtMost() {
    due.says("at most 200; -1 if not by then");
    for (int hour = 197; hour <= 203; hour++) {
      DarnRoom room = Due.taught(WOOL + HAND + JERSEYS + "ticket t for j when hour = " + hour + " darn 1 by 1 at 0 on 0 with c;");
      for (int now = 0; now < 4; now++) {
        int hours = hour + 1 - now;
        due.is("done(0) of hour " + hour + " in hour " + now, room.done(0), hours <= 200 ? hours : -1);
        room.pass(1);
      }
    }
  }

  private static void doneByStitches() {
    due.says("at most 200; -1 if not by then");
    for (int many = 198; many <= 202; many++) {
      DarnRoom room = Due.taught(WOOL + HAND + JERSEYS + stitches("t", "j", many));
      due.is("done(0) of " + many + " stitches", room.done(0), many <= 200 ? many : -1);
      room.pass(1);
      due.is("done(0) of " + many + " stitches, an hour later", room.done(0), many <= 201 ? many - 1 : -1);
    }
  }

  private static void doneNotByThen() {
    due.says("-1 if not by then");
    DarnRoom room = Due.taught("card c ply 1 yards 2 price 1;" + HAND + JERSEYS + stitches("t", "j", 3)
        + "ticket u for k when 1 = 2 darn 1 by 1 at 0 on 0 with c;");
    due.is("done(0), its wool ends", room.done(0), -1);
    due.is("done(1), its test never holds", room.done(1), -1);
    room.pass(100);
    due.is("done(0), its wool has ended", room.done(0), -1);
    room.wind(0, 1);
    due.is("done(0), with the yard", room.done(0), 1);
    DarnRoom handless = Due.taught(WOOL + JERSEYS + stitches("t", "j", 3));
    due.is("done(0) without hands", handless.done(0), -1);
  }

  private static void refusesIndexes(DarnRoom room, int many) {
    List<Integer> wrong = new ArrayList<>(List.of(-1, many));
    for (int far : FAR) wrong.add(far);
    for (int index : wrong) {
      due.refuses(room, "done(" + index + ")", NO_INDEX, () -> room.done(index));
      due.refuses(room, "lasts(" + index + ")", NO_INDEX, () -> room.lasts(index));
    }
  }

  private static void doneRefuses() {
    due.says("done: Throws IndexOutOfBoundsException if there is no such ticket");
    DarnRoom room = Due.taught(WORK);
    for (int t = 0; t < 4; t++) due.holds("done(" + t + ") answers", room.done(t) >= -1);
    due.refuses(room, "done(4)", NO_INDEX, () -> room.done(4));
    refusesIndexes(new DarnRoom(), 0);
    DarnRoom two = Due.taught(WOOL + HAND + JERSEYS + stitches("t", "j", 1) + stitches("u", "j", 1) + stitches("v", "j", 1) + stitches("w", "j", 1));
    refusesIndexes(two, 4);
  }

  private static void lastsIfItHasOne() {
    due.says("Returns behind how many hours it has a hole, if nothing is done by others: 0 if it has one");
    for (int cloth = 1; cloth <= 3; cloth++) {
      DarnRoom room = Due.taught("jersey i cloth 20 elbows 0;jersey j cloth " + cloth + " elbows 0;");
      for (int hour = 0; hour < 38; hour++) {
        int hours = Math.max(0, 12 * cloth - hour);
        due.is("lasts(1) of " + cloth + " in hour " + hour, room.lasts(1), hours);
        due.is("whether it has one", room.jersey(1, 0) > 0 ? 0 : 1, Math.min(1, hours));
        room.pass(1);
      }
    }
    DarnRoom one = HolesTest.cloth("........", "...o....");
    due.is("lasts(0) with one hole", one.lasts(0), 0);
    // A hole that will be darned in this hour is one now.
    DarnRoom darned = Due.taught("card c ply 9 yards 99 price 1;hand h needle 1 pace 9;jersey j cloth 1 elbows 0;"
        + "ticket t for j when hour = 12 " + ALL_CELLS + ";");
    darned.pass(12);
    due.is("lasts(0), soon darned", darned.lasts(0), 0);
    darned.pass(6);
    due.is("lasts(0), darned", darned.lasts(0), 9 * 12 - 6);
  }

  private static void lastsAtMost() {
    due.says("lasts: at most 200; -1 if not by then");
    DarnRoom room = Due.taught("jersey j cloth 17 elbows 0;jersey k cloth 16 elbows 0;jersey l cloth 18 elbows 0;");
    for (int hour = 0; hour < 18; hour++) {
      due.is("lasts(0) in hour " + hour, room.lasts(0), hour >= 4 ? 204 - hour : -1);
      due.is("lasts(1) in hour " + hour, room.lasts(1), 192 - hour);
      due.is("lasts(2) in hour " + hour, room.lasts(2), hour >= 16 ? 216 - hour : -1);
      room.pass(1);
    }
  }

  private static void lastsNotByThen() {
    due.says("lasts: -1 if not by then");
    DarnRoom room = Due.taught("card c ply 1 yards 0 price 1;" + HAND + "jersey j cloth 1 elbows 3;jersey k cloth 20 elbows 0;"
        + "ticket t for j darn 1 by 1 at 0 on 0 with c;");
    due.is("lasts(0), always under a hand", room.lasts(0), -1);
    due.is("lasts(1), thick", room.lasts(1), -1);
    room.pass(120);
    due.is("lasts(0), always under a hand", room.lasts(0), -1);
    due.is("lasts(1), thinner", room.lasts(1), 120);
    room.wind(0, 1);
    due.is("lasts(0), soon not under a hand", room.lasts(0), 12);
  }

  private static void lastsRefuses() {
    due.says("lasts: Throws IndexOutOfBoundsException if there is no such jersey");
    DarnRoom room = Due.taught(WORK);
    for (int j = 0; j < 2; j++) due.holds("lasts(" + j + ") answers", room.lasts(j) >= -1);
    due.refuses(room, "lasts(2)", NO_INDEX, () -> room.lasts(2));
    due.refuses(room, "lasts(-1)", NO_INDEX, () -> room.lasts(-1));
    for (int far : FAR) due.refuses(room, "lasts(" + far + ")", NO_INDEX, () -> room.lasts(far));
  }

  private static void foreseesWhatComes() {
    due.says("what: 0 stitches in them, 1 holes of all jerseys then, 2 tickets that are done then, 3 prices of all tickets then, added");
    for (int hours = 1; hours <= 120; hours++) {
      DarnRoom room = Due.taught(WORK);
      int ahead = hours % 3;
      if (ahead > 0) room.pass(ahead);
      int[] foreseen = new int[4];
      for (int what = 0; what < 4; what++) foreseen[what] = room.foresee(hours, what);
      int[] then = {room.pass(hours), room.count(8), room.count(6), room.count(9)};
      for (int what = 0; what < 4; what++) due.is("foresee(" + hours + ", " + what + ")", foreseen[what], then[what]);
    }
    DarnRoom room = Due.taught(WORK);
    int[] first = {2, 0, 0, 6};
    int[] far = {30, 0, 2, 90};
    for (int what = 0; what < 4; what++) {
      due.is("foresee(1, " + what + ")", room.foresee(1, what), first[what]);
      due.is("foresee(23, " + what + ")", room.foresee(23, what), far[what]);
    }
  }

  private static void foreseesNothing() {
    due.says("foresee of a workroom without anything");
    DarnRoom room = new DarnRoom();
    for (int what = 0; what < 4; what++) {
      due.is("foresee(1, " + what + ")", room.foresee(1, what), 0);
      due.is("foresee(120, " + what + ")", room.foresee(120, what), 0);
    }
    due.is("count(0)", room.count(0), 0);
  }

  private static void foreseeRefuses() {
    due.says("Throws IllegalArgumentException if hours is not 1 to 120 / IndexOutOfBoundsException if what is not 0 to 3");
    DarnRoom room = Due.taught(WORK);
    for (int what = -1; what <= 4; what++) {
      for (int hours : new int[] {0, 121, -1, Integer.MIN_VALUE, Integer.MAX_VALUE}) {
        int asked = what;
        due.refuses(room, "foresee(" + hours + ", " + what + ")", NO_ARGUMENT, () -> room.foresee(hours, asked));
      }
    }
    for (int hours : new int[] {1, 120}) {
      due.refuses(room, "foresee(" + hours + ", -1)", NO_INDEX, () -> room.foresee(hours, -1));
      due.refuses(room, "foresee(" + hours + ", 4)", NO_INDEX, () -> room.foresee(hours, 4));
      for (int far : FAR) due.refuses(room, "foresee(" + hours + ", " + far + ")", NO_INDEX, () -> room.foresee(hours, far));
      for (int what = 0; what <= 3; what++) due.holds("foresee(" + hours + ", " + what + ") answers", room.foresee(hours, what) >= 0);
    }
  }

  private static void adviseHours() {
    due.says("so that the most tickets are done behind so many hours");
    // With pace 1 a ticket of n stitches needs n hours, with pace 2 the half of them.
    for (int many : new int[] {2, 3, 4, 40, 80, 81, 159, 160, 161}) {
      DarnRoom room = Due.taught(WOOL + HAND + JERSEYS + stitches("t", "j", many));
      for (int hours : new int[] {1, 2, 3, 4, 19, 20, 21, 39, 40, 41, 79, 80}) {
        boolean plain = hours >= many;
        boolean faster = hours >= (many + 1) / 2;
        due.is("advise(" + hours + ") of " + many + " stitches", room.advise(hours), faster && !plain ? 0 : -1);
      }
    }
  }

  private static void adviseEachHand() {
    due.says("Returns this hand");
    String hands = "hand a needle 1 pace 1;hand b needle 2 pace 1;hand d needle 3 pace 1;hand e needle 4 pace 1;";
    for (int best = 0; best < 4; best++) {
      StringBuilder tickets = new StringBuilder();
      for (int i = 0; i < 4; i++) tickets.append(stitches("t" + i, "jklm".substring(i, i + 1), i == best ? 10 : 30));
      DarnRoom room = Due.taught(WOOL + hands + JERSEYS + tickets);
      due.is("advise(4), the best is " + best, room.advise(4), -1);
      due.is("advise(5), the best is " + best, room.advise(5), best);
      due.is("advise(9), the best is " + best, room.advise(9), best);
      due.is("advise(10), the best is " + best, room.advise(10), -1);
      for (int h = 0; h < 4; h++) due.is("hand(" + h + ", 1)", room.hand(h, 1), 1);
    }
  }

  private static void adviseSmallest() {
    due.says("of several the one with the smallest number");
    String hands = "hand a needle 1 pace 1;hand b needle 2 pace 1;hand d needle 3 pace 1;hand e needle 4 pace 1;";
    for (int slow = 0; slow < 15; slow++) {
      StringBuilder tickets = new StringBuilder();
      int smallest = -1;
      for (int i = 3; i >= 0; i--) {
        if ((slow >> i & 1) == 0) smallest = i;
      }
      for (int i = 0; i < 4; i++) tickets.append(stitches("t" + i, "jklm".substring(i, i + 1), (slow >> i & 1) == 0 ? 10 : 30));
      due.is("advise(5)", Due.taught(WOOL + hands + JERSEYS + tickets).advise(5), smallest);
    }
  }

  private static void adviseMost() {
    due.says("so that the most tickets are done");
    String hands = "hand a needle 1 pace 1;hand b needle 1 pace 1;";
    // The first hand does one more, if it is faster; the second one two more, as its tickets are of two stitches each.
    DarnRoom room = Due.taught(WOOL + hands + JERSEYS + stitches("t", "j", 8) + stitches("u", "k", 2) + stitches("v", "k", 2)
        + stitches("w", "k", 2) + stitches("x", "k", 2));
    due.is("advise(4)", room.advise(4), 1);
    due.is("advise(1)", room.advise(1), 1);
    due.is("advise(8)", room.advise(8), -1);
    DarnRoom firstMore = Due.taught(WOOL + hands + JERSEYS + stitches("u", "k", 2) + stitches("t", "j", 8) + stitches("v", "k", 2)
        + stitches("w", "k", 2) + stitches("x", "k", 2));
    due.is("advise(4), the other way round", firstMore.advise(4), 0);
  }

  private static void adviseNone() {
    due.says("-1 if no more are done by any");
    due.is("advise(80) of nothing", new DarnRoom().advise(80), -1);
    due.is("advise(80) without hands", Due.taught(WOOL + JERSEYS + stitches("t", "j", 3)).advise(80), -1);
    due.is("advise(80) without tickets", Due.taught(WOOL + HAND + JERSEYS).advise(80), -1);
    due.is("advise(2) without wool", Due.taught("card c ply 1 yards 3 price 1;" + HAND + JERSEYS + stitches("t", "j", 4)).advise(2), -1);
    due.is("advise(2) with wool", Due.taught("card c ply 1 yards 4 price 1;" + HAND + JERSEYS + stitches("t", "j", 4)).advise(2), 0);
    // With a faster first hand the wool ends ahead of the second one: fewer are done, not more.
    DarnRoom fewer = Due.taught("card c ply 1 yards 4 price 1;hand a needle 1 pace 1;hand b needle 1 pace 1;" + JERSEYS
        + stitches("t", "j", 9) + stitches("u", "k", 2));
    due.is("advise(2), fewer by the first", fewer.advise(2), -1);
    due.is("advise(1), more by the second", fewer.advise(1), 1);
  }

  private static void advisePaceOfTen() {
    due.says("the hand whose pace had best be 1 more from now on (whatever it is)");
    for (int pace = 1; pace <= 9; pace++) {
      DarnRoom room = Due.taught(WOOL + "hand h needle 1 pace " + pace + ";" + JERSEYS + stitches("t", "j", pace + 1));
      due.is("advise(1) with pace " + pace, room.advise(1), 0);
      due.is("hand(0, 1)", room.hand(0, 1), pace);
      due.is("advise(2) with pace " + pace, room.advise(2), -1);
      DarnRoom more = Due.taught(WOOL + "hand h needle 1 pace " + pace + ";" + JERSEYS + stitches("t", "j", pace + 2));
      due.is("advise(1) with pace " + pace + ", a cell more", more.advise(1), -1);
      due.is("pass(1)", more.pass(1), pace);
    }
  }

  private static void adviseRefuses() {
    due.says("Throws IllegalArgumentException if hours is not 1 to 80");
    DarnRoom room = Due.taught(WORK);
    for (int hours : new int[] {0, -1, -80, 81, 82, 120}) due.refuses(room, "advise(" + hours + ")", NO_ARGUMENT, () -> room.advise(hours));
    for (int far : FAR) due.refuses(room, "advise(" + far + ")", NO_ARGUMENT, () -> room.advise(far));
    due.holds("advise(1) answers", room.advise(1) >= -1);
    due.holds("advise(80) answers", room.advise(80) >= -1);
    DarnRoom last = Due.taught(WOOL + HAND + JERSEYS + "ticket t for j when hour > 78 darn 2 by 1 at 0 on 0 with c;");
    due.is("advise(79)", last.advise(79), -1);
    due.is("advise(80)", last.advise(80), 0);
  }

  private static void nothingIsChanged() {
    due.says("(nothing is changed)");
    DarnRoom room = Due.taught(WORK);
    room.hurry(1);
    Due.teach(room, "!");
    room.feed(1, 2, 3, 4, 5);
    for (int hour = 0; hour < 20; hour++) {
      long digest = room.digest();
      for (int t = 0; t < 4; t++) {
        room.done(t);
        due.is("digest() behind done(" + t + ")", room.digest(), digest);
      }
      room.lasts(hour % 2);
      due.is("digest() behind lasts()", room.digest(), digest);
      room.foresee(120, hour % 4);
      due.is("digest() behind foresee()", room.digest(), digest);
      room.advise(80);
      due.is("digest() behind advise()", room.digest(), digest);
      due.is("errorAt()", room.errorAt(), 0);
      room.pass(1);
    }
  }

  private static void goesOnAsBefore() {
    due.says("(nothing is changed)");
    DarnRoom room = Due.taught(WORK);
    DarnRoom plain = Due.taught(WORK);
    for (int hour = 0; hour < 40; hour++) {
      switch (hour % 4) {
        case 0: room.done(hour / 4 % 4); break;
        case 1: room.lasts(hour / 4 % 2); break;
        case 2: room.foresee(1 + hour, hour / 4 % 4); break;
        default: room.advise(1 + hour); break;
      }
      due.is("pass(1) in hour " + hour, room.pass(1), plain.pass(1));
      due.is("digest() in hour " + hour, room.digest(), plain.digest());
      if (hour == 15) due.is("wind(0, 40)", room.wind(0, 40), plain.wind(0, 40));
    }
    due.holds("the slips", Due.paper(room).equals(Due.paper(plain)));
  }

  private static void byteAt() {
    due.says("byteAt: Throws IndexOutOfBoundsException if there is no such place");
    DarnRoom room = Due.taught(WOOL + HAND + JERSEYS + stitches("t", "j", 4));
    due.refuses(room, "byteAt(0) of nothing", NO_INDEX, () -> room.byteAt(0));
    room.pass(4);
    String slip = "t 12\n";
    for (int i = 0; i < 5; i++) due.is("byteAt(" + i + ")", room.byteAt(i), slip.charAt(i));
    due.refuses(room, "byteAt(5)", NO_INDEX, () -> room.byteAt(5));
    due.refuses(room, "byteAt(-1)", NO_INDEX, () -> room.byteAt(-1));
    due.refuses(room, "byteAt(399)", NO_INDEX, () -> room.byteAt(399));
    due.refuses(room, "byteAt(400)", NO_INDEX, () -> room.byteAt(400));
    for (int far : FAR) due.refuses(room, "byteAt(" + far + ")", NO_INDEX, () -> room.byteAt(far));
    room.clear();
    due.refuses(room, "byteAt(0) behind clear()", NO_INDEX, () -> room.byteAt(0));
  }

  private static void clear() {
    due.says("Takes the paper away. / Returns how many bytes it had.");
    DarnRoom room = Due.taught(WOOL + HAND + JERSEYS + stitches("t", "j", 4) + stitches("u", "j", 1));
    due.is("clear() of nothing", room.clear(), 0);
    room.pass(4);
    due.is("clear()", room.clear(), 5);
    due.is("count(10)", room.count(10), 0);
    due.is("clear() again", room.clear(), 0);
    due.is("ticket(0, 0) stays", room.ticket(0, 0), 2);
    due.is("ticket(0, 3) stays", room.ticket(0, 3), 12);
    room.pass(1);
    due.holds("the next slip", Due.paper(room).equals("u 3\n"));
    due.is("clear() of it", room.clear(), 4);
  }

  private static void mean() {
    due.says("Returns the mean price of all tickets that are done");
    DarnRoom room = Due.taught("card c ply 1 yards 999 price 1;" + HAND + "hand g needle 1 pace 1;" + JERSEYS + stitches("t", "j", 1)
        + stitches("u", "k", 48) + stitches("v", "j", 1) + stitches("w", "j", 2) + "ticket x for j darn 0 by 1 at 0 on 0 with c;");
    double[] means = {0.0, 1.0, 1.0, 1.0, 4.0 / 3, 1.0};
    for (int hour = 0; hour < means.length; hour++) {
      due.isD("mean() in hour " + hour, room.mean(), means[hour]);
      room.pass(1);
    }
    room.pass(42);
    due.isD("mean() of all five", room.mean(), 52.0 / 5);
  }

  private static void meanOfNone() {
    due.says("0 if none is");
    DarnRoom room = new DarnRoom();
    due.isD("mean() of nothing", room.mean(), 0.0);
    Due.teach(room, WOOL + HAND + JERSEYS + stitches("t", "j", 2));
    due.isD("mean(), it waits", room.mean(), 0.0);
    room.pass(1);
    due.isD("mean(), it is at a hand", room.mean(), 0.0);
    room.pass(1);
    due.isD("mean(), it is done", room.mean(), 6.0);
    Due.teach(room, WOOL + HAND + JERSEYS + stitches("t", "j", 2));
    due.isD("mean() behind teach()", room.mean(), 0.0);
    DarnRoom free = Due.taught(WOOL + HAND + JERSEYS + "ticket x for j darn 0 by 1 at 0 on 0 with c;");
    free.pass(1);
    due.isD("mean() of one without stitches", free.mean(), 0.0);
  }

  private static void digest() {
    due.says("d becomes d * 31 + x, which wraps around as a 64-bit integer");
    BigInteger wide = BigInteger.valueOf(751);
    for (int what = 0; what <= 11; what++) wide = wide.multiply(BigInteger.valueOf(31));
    due.holds("the number of a new object is wider than 64 bits", wide.bitLength() > 64);
    due.is("digest() of a new object", new DarnRoom().digest(), wide.longValue());
    DarnRoom room = new DarnRoom();
    room.pass(1);
    due.is("digest() in hour 1", room.digest(), wide.add(BigInteger.valueOf(31).pow(11)).longValue());
    room.feed(0, 0, 0, 0, 0);
    due.is("digest() of 20 bytes", room.digest(), wide.add(BigInteger.valueOf(31).pow(11)).add(BigInteger.valueOf(20)).longValue());
  }

  /** The digest as the document tells it, from what the other calls tell. */
  private static long told(DarnRoom room) {
    BigInteger d = BigInteger.valueOf(751);
    List<Integer> all = new ArrayList<>();
    for (int what = 0; what <= 11; what++) all.add(room.count(what));
    for (int i = 0; i < all.get(1); i++) {
      for (int what = 0; what <= 2; what++) all.add(room.card(i, what));
    }
    for (int i = 0; i < all.get(2); i++) {
      for (int what = 0; what <= 5; what++) all.add(room.hand(i, what));
    }
    for (int i = 0; i < all.get(3); i++) {
      for (int what = 0; what <= 3; what++) all.add(room.jersey(i, what));
      all.add(room.tear(i));
      for (int cell = 0; cell < 48; cell++) all.add(room.cell(i, cell % 8, cell / 8));
    }
    for (int i = 0; i < all.get(4); i++) {
      for (int what = 0; what <= 7; what++) all.add(room.ticket(i, what));
    }
    for (int i = 0; i < all.get(10); i++) all.add(room.byteAt(i));
    for (int x : all) d = d.multiply(BigInteger.valueOf(31)).add(BigInteger.valueOf(x));
    return d.longValue();
  }

  private static void digestOfEach() {
    due.says("what count() tells; for each card what card() tells; for each hand what hand() tells; for each jersey what jersey() tells, how great"
        + " its greatest tear is, and its cells, row by row; for each ticket what ticket() tells; the bytes of the paper (all in their order)");
    String[] bundles = {"", "card c ply 9 yards 999 price 20;card d ply 1 yards 0 price 1;", HAND, "jersey j cloth 4 elbows 3;jersey k cloth 1 elbows 0;",
        WORK, Rooms.THINGS + Rooms.TICKET};
    for (String bundle : bundles) {
      for (int hours : new int[] {0, 1, 2, 7, 12, 24, 36}) {
        DarnRoom room = Due.taught(bundle);
        if (hours > 0) room.pass(hours);
        due.is("digest() behind " + hours + " hours of " + bundle, room.digest(), told(room));
      }
    }
  }
}
