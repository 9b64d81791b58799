/**
 * A room with as many cards, hands, jerseys and tickets as can be told: the last one of each sort counts as all others.
 * Each question is put to a room of its own, as no object is used for more than 512 calls.
 */
public final class FullRoomTest {
  private static final int CARDS = 6;
  private static final int HANDS = 4;
  private static final int JERSEYS = 6;
  private static final int TICKETS = 12;
  private static final int[] HOURS = {0, 1, 2, 3, 5, 12, 30};
  private static final Due due = new Due();

  public static void main(String[] args) {
    asTold();
    worked();
    sums();
    digests();
    lookingAhead();
    nothingStaysOfIt();
    hurrying();
    due.end("FullRoomTest");
  }

  private interface Question {
    long to(DarnRoom room);
  }

  /** The cells of the only step of a ticket, in a row. */
  private static int cells(int ticket) {
    return ticket % 8 + 1;
  }

  private static String bundle() {
    StringBuilder text = new StringBuilder();
    for (int i = 0; i < CARDS; i++) text.append("card c" + i + " ply " + (i + 1) + " yards " + (10 + i) + " price " + (i + 1) + ";");
    for (int i = 0; i < HANDS; i++) text.append("hand h" + i + " needle " + (i + 1) + " pace " + (i + 2) + ";");
    for (int i = 0; i < JERSEYS; i++) text.append("jersey j" + i + " cloth " + (i == 5 ? 1 : 10 + i) + " elbows " + i % 4 + ";");
    for (int i = 0; i < TICKETS; i++) {
      text.append("ticket t" + i + " for j" + i % 6 + " darn " + cells(i) + " by 1 at 0 on " + i % 6 + " with c" + i % 6 + ";");
    }
    return text.toString();
  }

  private static DarnRoom full(int hours) {
    DarnRoom room = Due.taught(bundle());
    if (hours > 0) room.pass(hours);
    return room;
  }

  private static long ask(int hours, Question question) {
    return question.to(full(hours));
  }

  private static void asTold() {
    DarnRoom room = full(0);
    int[] counts = {0, 6, 4, 6, 12, 12, 0, 0, 0, 0, 0, 0};
    for (int what = 0; what < 12; what++) due.is("count(" + what + ")", room.count(what), counts[what]);
    for (int i = 0; i < CARDS; i++) due.is("card(" + i + ", 1)", room.card(i, 1), 10 + i);
    for (int i = 0; i < HANDS; i++) due.is("hand(" + i + ", 1)", room.hand(i, 1), i + 2);
    for (int i = 0; i < JERSEYS; i++) due.is("jersey(" + i + ", 1)", room.jersey(i, 1), i == 5 ? 1 : 10 + i);
    for (int i = 0; i < TICKETS; i++) {
      due.is("ticket(" + i + ", 5)", room.ticket(i, 5), i);
      due.is("ticket(" + i + ", 6)", room.ticket(i, 6), i % 6);
    }
    room.pass(1);
    for (int i = 0; i < HANDS; i++) due.is("hand(" + i + ", 5)", room.hand(i, 5), i + 1);
  }

  private static void worked() {
    // Hour 11 has worn all jerseys once: the elbows of j1, j2, j3 and j5 by 1, 2, 3 and 1 more.
    DarnRoom room = full(12);
    int[] counts = {12, 6, 4, 6, 12, 0, 12, 46, 42, 164};
    for (int what = 0; what < counts.length; what++) due.is("count(" + what + ") in hour 12", room.count(what), counts[what]);
    int[] thick = {440, 492, 524, 576, 664, 60};
    for (int i = 0; i < JERSEYS; i++) due.is("jersey(" + i + ", 3) in hour 12", room.jersey(i, 3), thick[i]);
    due.is("jersey(5, 0) in hour 12", room.jersey(5, 0), 42);
    due.is("tear(5) in hour 12", room.tear(5), 42);
    int[] yards = {2, 1, 8, 7, 6, 5};
    for (int i = 0; i < CARDS; i++) due.is("card(" + i + ", 1) in hour 12", room.card(i, 1), yards[i]);
    for (int i = 0; i < TICKETS; i++) due.is("ticket(" + i + ", 3) in hour 12", room.ticket(i, 3), cells(i) * (i % 6 + 1));
    due.isD("mean() in hour 12", room.mean(), 164.0 / 12);
  }

  private static void sums() {
    for (int hours : HOURS) {
      long[] tickets = new long[5];
      for (int i = 0; i < TICKETS; i++) {
        int ticket = i;
        int state = (int) ask(hours, room -> room.ticket(ticket, 0));
        long price = ask(hours, room -> room.ticket(ticket, 3));
        if (state == 0) tickets[0]++;
        if (state == 2) tickets[1]++;
        if (state == 2) tickets[4] += price;
        tickets[2] += ask(hours, room -> room.ticket(ticket, 2));
        tickets[3] += price;
      }
      long holes = 0;
      for (int i = 0; i < JERSEYS; i++) {
        int jersey = i;
        holes += ask(hours, room -> room.jersey(jersey, 0));
      }
      DarnRoom room = full(hours);
      due.is("count(5) in hour " + hours, room.count(5), tickets[0]);
      due.is("count(6) in hour " + hours, room.count(6), tickets[1]);
      due.is("count(7) in hour " + hours, room.count(7), tickets[2]);
      due.is("count(8) in hour " + hours, room.count(8), holes);
      due.is("count(9) in hour " + hours, room.count(9), tickets[3]);
      due.isD("mean() in hour " + hours, room.mean(), tickets[1] == 0 ? 0 : (double) tickets[4] / tickets[1]);
    }
  }

  private static void digests() {
    for (int hours : new int[] {0, 2, 12}) {
      long d = 751;
      for (int i = 0; i < 12; i++) d = tells(d, hours, i, 0);
      for (int i = 0; i < CARDS * 3; i++) d = tells(d, hours, i, 1);
      for (int i = 0; i < HANDS * 6; i++) d = tells(d, hours, i, 2);
      for (int i = 0; i < JERSEYS * 53; i++) d = tells(d, hours, i, 3);
      for (int i = 0; i < TICKETS * 8; i++) d = tells(d, hours, i, 4);
      int bytes = full(hours).count(10);
      for (int i = 0; i < bytes; i++) d = tells(d, hours, i, 5);
      due.is("digest() in hour " + hours, full(hours).digest(), d);
    }
  }

  /** The next number of the digest: the one with a number of those of a sort. */
  private static long tells(long d, int hours, int number, int sort) {
    return d * 31 + ask(hours, room -> {
      switch (sort) {
        case 0: return room.count(number);
        case 1: return room.card(number / 3, number % 3);
        case 2: return room.hand(number / 6, number % 6);
        case 3: return jerseyTells(room, number / 53, number % 53);
        case 4: return room.ticket(number / 8, number % 8);
        default: return room.byteAt(number);
      }
    });
  }

  private static int jerseyTells(DarnRoom room, int jersey, int number) {
    if (number < 4) return room.jersey(jersey, number);
    return number == 4 ? room.tear(jersey) : room.cell(jersey, (number - 5) % 8, (number - 5) / 8);
  }

  private static void lookingAhead() {
    for (int hours : HOURS) {
      if (hours == 0) continue;
      int[] counts = {7, 8, 6, 9};
      DarnRoom later = full(hours);
      for (int what = 0; what < 4; what++) {
        int asked = what;
        due.is("foresee(" + hours + ", " + what + ")", ask(0, room -> room.foresee(hours, asked)), later.count(counts[what]));
      }
    }
    DarnRoom end = full(12);
    for (int i = 0; i < TICKETS; i++) {
      int ticket = i;
      due.is("done(" + i + ")", ask(0, room -> room.done(ticket)), end.ticket(i, 4) + 1);
    }
    // The elbows of j1, j2 and j3 get 2, 3 and 4 thinner each twelve hours; j1 is darned elsewhere.
    int[] lasts = {120, 72, 48, 48, 168, 12};
    for (int i = 0; i < JERSEYS; i++) {
      int jersey = i;
      due.is("lasts(" + i + ")", ask(0, room -> room.lasts(jersey)), lasts[i]);
    }
  }

  private static void nothingStaysOfIt() {
    for (int hours : HOURS) {
      DarnRoom room = full(hours);
      long digest = room.digest();
      room.done(11);
      due.is("digest() behind done(11) in hour " + hours, room.digest(), digest);
      room.lasts(4);
      due.is("digest() behind lasts(4) in hour " + hours, room.digest(), digest);
      room.foresee(120, 3);
      due.is("digest() behind foresee(120, 3) in hour " + hours, room.digest(), digest);
      room.advise(80);
      due.is("digest() behind advise(80) in hour " + hours, room.digest(), digest);
      room.pass(30);
      due.is("digest() 30 hours later", room.digest(), full(hours, 30).digest());
    }
  }

  private static DarnRoom full(int hours, int more) {
    DarnRoom room = full(hours);
    room.pass(more);
    return room;
  }

  private static void hurrying() {
    DarnRoom room = full(0);
    due.is("hurry(11)", room.hurry(11), 11);
    for (int i = 0; i < TICKETS; i++) due.is("ticket(" + i + ", 5) behind it", room.ticket(i, 5), (i + 1) % 12);
    due.is("hurry(10)", room.hurry(10), 11);
    room.pass(1);
    // The hands took 10, 11, 0 and 1; the last two had no more cells than the hands stitches.
    for (int i = 0; i < TICKETS; i++) due.is("ticket(" + i + ", 0) an hour later", room.ticket(i, 0), i < 2 ? 2 : i < 10 ? 0 : 1);
    due.is("ticket(10, 1)", room.ticket(10, 1), 0);
    due.is("ticket(11, 1)", room.ticket(11, 1), 1);
  }
}
