/** Promises 1 to 6: a new object, feed, trim, teach, errorAt, count. */
public final class LanguageTest {
  private static final String THINGS =
      "card c ply 1 yards 9 price 1;hand h needle 1 pace 1;hand g needle 1 pace 1;jersey j cloth 2 elbows 0;";
  private static final String STEP = "darn 1 by 1 at 0 on 0 with c";
  private static final Due due = new Due();

  public static void main(String[] args) {
    newObject();
    feeding();
    trimming();
    tokens();
    lines();
    tests();
    sums();
    depth();
    tokenCount();
    namesToldTwice();
    unknownNames();
    tooMany();
    ranges();
    firstError();
    teachingAgain();
    counting();
    reckoning();
    joining();
    operands();
    operandsOfTheFirst();
    due.end("LanguageTest");
  }

  private static void error(String text, int error, int at) {
    DarnRoom room = new DarnRoom();
    due.is("teach() of " + text, Due.teach(room, text), error);
    due.is("errorAt() behind " + text, room.errorAt(), at);
    due.is("count(11) behind " + text, room.count(11), 0);
  }

  private static void fits(String text) {
    error(text, 0, -1);
  }

  private static void newObject() {
    DarnRoom room = new DarnRoom();
    for (int what = 0; what <= 11; what++) due.is("new: count(" + what + ")", room.count(what), 0);
    due.is("new: errorAt()", room.errorAt(), -1);
    long d = 751;
    for (int i = 0; i < 12; i++) d *= 31;
    due.is("new: digest()", room.digest(), d);
    due.isD("new: mean()", room.mean(), 0.0);
    due.refuses(room, "new: card(0, 0)", IndexOutOfBoundsException.class, () -> room.card(0, 0));
    due.is("new: pass(5)", room.pass(5), 0);
    due.is("new: count(0) behind pass(5)", room.count(0), 5);
  }

  private static void feeding() {
    DarnRoom room = new DarnRoom();
    due.is("feed", room.feed(0x68616e64, 0x20682020, 0x6e656564, 0x6c652031, 0x20706163), 20);
    due.is("feed again", room.feed(0x6520323b, 0x20202020, 0x20202020, 0x20202020, 0x20202020), 40);
    due.is("teach of what was fed", room.teach(), 0);
    due.is("its hand", room.count(2), 1);
    due.is("its pace", room.hand(0, 1), 2);
    for (int i = 1; i <= 100; i++) due.is("feed number " + i, room.feed(-1, -2, -3, -4, -5), 20 * i);
    due.refuses(room, "feed number 101", IllegalStateException.class, () -> room.feed(1, 2, 3, 4, 5));
    room.trim(1981);
    due.refuses(room, "feed with 1981 bytes", IllegalStateException.class, () -> room.feed(1, 2, 3, 4, 5));
    room.trim(1980);
    due.is("feed with 1980 bytes", room.feed(1, 2, 3, 4, 5), 2000);
    due.is("teach of high bytes", room.teach(), 1);
    due.is("its errorAt", room.errorAt(), 0);
  }

  private static void trimming() {
    DarnRoom room = new DarnRoom();
    due.is("trim(0) of nothing", room.trim(0), 0);
    due.refuses(room, "trim(1) of nothing", IllegalArgumentException.class, () -> room.trim(1));
    room.feed(0, 0, 0, 0, 0);
    due.refuses(room, "trim(21)", IllegalArgumentException.class, () -> room.trim(21));
    due.refuses(room, "trim(-1)", IllegalArgumentException.class, () -> room.trim(-1));
    due.refuses(room, "trim(least)", IllegalArgumentException.class, () -> room.trim(Integer.MIN_VALUE));
    due.is("trim(20)", room.trim(20), 20);
    due.is("trim(7)", room.trim(7), 7);
    due.is("count(11)", room.count(11), 7);
    due.refuses(room, "trim(8) of 7", IllegalArgumentException.class, () -> room.trim(8));
    due.is("trim(0)", room.trim(0), 0);
    due.is("feed behind trim", room.feed(0, 0, 0, 0, 0), 20);
  }

  private static void tokens() {
    fits("");
    fits(" \n \n");
    error("\t", 1, 0);
    error("\r\n", 1, 0);
    error("hand h\tneedle 1 pace 1;", 1, 6);
    error("Hand h needle 1 pace 1;", 1, 0);
    error("\u00e9", 1, 0);
    fits("hand h needle 1 pace 1;");
    fits("\n hand\nh needle 1pace 1 ;\n");
    fits("hand h1 needle 1pace 2;hand h2 needle 1 pace 1;");
    error("hand h needle1 pace 1;", 1, 7);
    error("handh needle 1 pace 1;", 1, 0);
    fits("hand abcdefghij needle 1 pace 1;");
    fits("hand a123456789 needle 1 pace 1;");
    error("hand abcdefghijk needle 1 pace 1;", 1, 5);
    error("hand a1234567890 needle 1 pace 1;", 1, 5);
    error("hand 1a needle 1 pace 1;", 1, 5);
    error("hand h needle 123456 pace 1;", 5, 14);
    fits("hand h needle 000001 pace 00;".replace("00;", "01;"));
    error("hand h needle 0000001 pace 1;", 1, 14);
    error("hand h needle 1234567 pace 1;", 1, 14);
    error("hand h needle - 1 pace 1;", 1, 14);
    error("hand h needle 1 pace 1:", 1, 22);
    error("hand h needle 1 pace 1! ", 1, 22);
    fits(THINGS + "ticket t for j when 1<=2 and 1 <2 and 2>=1 and 2>1 and 1=1 " + STEP + ";");
    error(THINGS + "ticket t for j when 1< =2 " + STEP + ";", 1, THINGS.length() + 23);
    error(THINGS + "ticket t for j when 1=<2 " + STEP + ";", 1, THINGS.length() + 22);
    error(THINGS + "ticket t for j when 1==2 " + STEP + ";", 1, THINGS.length() + 22);
  }

  private static void lines() {
    error("h", 1, 0);
    error(";", 1, 0);
    error("hand", 1, 4);
    error("hand  ", 1, 6);
    error("hand h needle 1 pace 1", 1, 22);
    error("hand h needle 1 pace 1 \n", 1, 24);
    error("hand h needle 1 pace 1;;", 1, 23);
    error("hand h pace 1 needle 1;", 1, 7);
    error("hand hand needle 1 pace 1;", 1, 5);
    error("hand needle 1 pace 1;", 1, 5);
    error("card ply 1 yards 1 price 1;", 1, 5);
    error("jersey cloth 1 elbows 1;", 1, 7);
    error("ticket for j darn 1 by 1 at 0 on 0 with c;", 1, 7);
    error("ticket t for darn 1 by 1 at 0 on 0 with c;", 1, 13);
    error("hand max needle 1 pace 1;", 1, 5);
    fits("hand maxi needle 1 pace 1;");
    fits("card c ply 9 yards 999 price 20;");
    error("card c ply 9 yards 999 price;", 1, 28);
    error("card c ply 9 price 20 yards 999;", 1, 13);
    error("card c ply 9 yards 9 price 1, card", 1, 28);
    fits("jersey j cloth 20 elbows 3;");
    error("jersey j cloth x elbows 3;", 1, 15);
    error("jersey j elbows 3 cloth 2;", 1, 9);
    int at = THINGS.length();
    fits(THINGS + "ticket t for j " + STEP + ";");
    fits(THINGS + "ticket t for j " + STEP + " then " + STEP + ";");
    error(THINGS + "ticket t for j;", 1, at + 14);
    error(THINGS + "ticket t j " + STEP + ";", 1, at + 9);
    error(THINGS + "ticket t for j when " + STEP + ";", 1, at + 20);
    error(THINGS + "ticket t for j " + STEP + " then;", 1, at + 48);
    error(THINGS + "ticket t for j " + STEP + " " + STEP + ";", 1, at + 44);
    error(THINGS + "ticket t for j then " + STEP + ";", 1, at + 15);
    error(THINGS + "ticket t for j darn 1 by 1 on 0 at 0 with c;", 1, at + 27);
    error(THINGS + "ticket t for j darn 1 at 0 on 0 with c;", 1, at + 22);
    error(THINGS + "ticket t for j darn by 1 at 0 on 0 with c;", 1, at + 20);
    error(THINGS + "ticket t for j darn 1 by 1 at 0 on 0 with 1;", 1, at + 42);
  }

  private static void tested(String test, int error, int at) {
    String before = THINGS + "ticket t for j when ";
    error(before + test + " " + STEP + ";", error, at < 0 ? -1 : before.length() + at);
  }

  private static void tests() {
    tested("1 < 2", 0, -1);
    tested("free h", 0, -1);
    tested("not not free h", 0, -1);
    tested("[free h or [1 = 2 and not 2 > 1]] and 1 <= 1", 0, -1);
    tested("(1) < (2)", 0, -1);
    tested("(1 < 2)", 1, 3);
    tested("[1] < 2", 1, 2);
    tested("1", 1, 2);
    tested("1 < 2 < 3", 1, 6);
    tested("free h < 3", 1, 7);
    tested("1 < 2 not 1 < 2", 1, 6);
    tested("1 < 2 and", 1, 10);
    tested("or 1 < 2", 1, 0);
    tested("[1 < 2", 1, 7);
    tested("1 < 2]", 1, 5);
    tested("[]", 1, 1);
    tested("free", 1, 5);
    tested("free 1", 1, 5);
    tested("h", 1, 0);
    tested("when 1 < 2", 1, 0);
    tested("1 + not 1 < 2", 1, 4);
  }

  private static void summed(String sum, int error, int at) {
    String before = THINGS + "ticket s for j " + STEP + ";ticket t for j darn ";
    error(before + sum + " by 1 at 0 on 0 with c;", error, at < 0 ? -1 : before.length() + at);
  }

  private static void sums() {
    summed("1 + 2 - 3 * 4 / 5", 0, -1);
    summed("hour*waits+wool c-holes j/thin j+stitches s", 0, -1);
    summed("min(1,2)+max((1),-(2))", 0, -1);
    summed("- - 1", 0, -1);
    summed("1 - - 1", 0, -1);
    summed("+ 1", 1, 0);
    summed("1 +", 1, 4);
    summed("1 * / 2", 1, 4);
    summed("()", 1, 1);
    summed("(1", 1, 3);
    summed("1)", 1, 1);
    summed("(1,2)", 1, 2);
    summed("min 1", 1, 4);
    summed("min(1)", 1, 5);
    summed("min(1,2,3)", 1, 7);
    summed("max(,1)", 1, 4);
    summed("wool 1", 1, 5);
    summed("holes", 1, 6);
    summed("hour c", 1, 5);
    summed("c", 1, 0);
    summed("free h", 1, 0);
    summed("1 2", 1, 2);
    summed("[1]", 1, 0);
  }

  private static void depth() {
    summed("((((((((1))))))))", 0, -1);
    summed("(((((((((1)))))))))", 1, 8);
    summed("--------1", 0, -1);
    summed("---------1", 1, 8);
    summed("((((((((1))))))))+((((((((2))))))))", 0, -1);
    summed("(((((((-1+-(2)))))))", 1, 11);
    summed("(((((((-1+(2))))))))", 0, -1);
    summed("(((((((-1+-2)))))))", 0, -1);
    summed("min(max(min(max(min(max(min(max(1,2),2),2),2),2),2),2),2)", 0, -1);
    summed("((((((((min(1,2)))))))))", 1, 11);
    summed("(((((((max(1,-2))))))))", 1, 13);
    summed("(((((((max(1,2)+(3))))))))", 0, -1);
    tested("not not not not not not not not free h", 0, -1);
    tested("not not not not not not not not not free h", 1, 32);
    tested("[[[[[[[[free h]]]]]]]]", 0, -1);
    tested("[[[[[[[[[free h]]]]]]]]]", 1, 8);
    tested("[[[[[[[[(1) < 2]]]]]]]]", 1, 8);
    tested("not [not [not [not [1 < 2]]]]", 0, -1);
    tested("not [not [not [not [-1 < 2]]]]", 1, 20);
    tested("not not not not not not not not free h and not not not not not not not not 1 = 1", 0, -1);
    tested("not ((((((((1)))))))) = 1", 1, 11);
  }

  private static void tokenCount() {
    // 9 + 7 + 7 + 7 tokens in THINGS, 14 of the ticket beside the sum, and 2 + 177 * 2 of the sum.
    StringBuilder sum = new StringBuilder("-1");
    for (int i = 0; i < 177; i++) sum.append("+1");
    String full = THINGS + "ticket t for j darn " + sum + " by 1 at 0 on 0 with c;";
    due.is("the tokens of the full bundle", tokensOf(full), 400);
    fits(full);
    fits(full + " \n ");
    error(full + " hand", 1, full.length() + 1);
    error(full + "hand x needle 1 pace 1;", 1, full.length());
    error(full + " !", 1, full.length() + 1);
    String longer = full.replace("by 1", "by -1");
    error(longer, 1, longer.length() - 1);
    String wrong = longer.replace("card c ply 1 ", "card c ply 0 ");
    error(wrong, 1, wrong.length() - 1);
    error(full.replace("card c ply 1 ", "card c ply 0 "), 5, 11);
  }

  private static int tokensOf(String text) {
    return text.replaceAll("[a-z0-9]+", " x ").replaceAll("([^x ])", " $1 ").trim().split(" +").length;
  }

  private static void namesToldTwice() {
    String card = "card a ply 1 yards 1 price 1;";
    String hand = "hand a needle 1 pace 1;";
    String jersey = "jersey a cloth 1 elbows 1;";
    String ticket = "ticket a for a darn 1 by 1 at 0 on 0 with a;";
    fits(card + hand + jersey + ticket);
    error(card + hand + card, 2, card.length() + hand.length() + 5);
    error(hand + card + hand, 2, card.length() + hand.length() + 5);
    error(jersey + card + jersey, 2, card.length() + jersey.length() + 7);
    error(card + jersey + ticket + ticket, 2, card.length() + jersey.length() + ticket.length() + 7);
    fits(card + card.replace("card a", "card a1") + card.replace("card a", "card aa"));
  }

  private static void unknownNames() {
    String named = "card c ply 1 yards 1 price 1;hand h needle 1 pace 1;jersey j cloth 1 elbows 1;";
    int at = named.length();
    error(named + "ticket t for c darn 1 by 1 at 0 on 0 with c;", 3, at + 13);
    error(named + "ticket t for j darn 1 by 1 at 0 on 0 with j;", 3, at + 42);
    error(named + "ticket t for j darn holes h by 1 at 0 on 0 with c;", 3, at + 26);
    error(named + "ticket t for j darn 1 by thin c at 0 on 0 with c;", 3, at + 30);
    error(named + "ticket t for j darn 1 by 1 at wool j on 0 with c;", 3, at + 35);
    error(named + "ticket t for j darn 1 by 1 at 0 on stitches t with c;", 3, at + 44);
    error(named + "ticket t for j when free j darn 1 by 1 at 0 on 0 with c;", 3, at + 25);
    error(named + "ticket t for j when stitches t > 1 darn 1 by 1 at 0 on 0 with c;", 3, at + 29);
    String ticket = "ticket t for j darn 1 by 1 at 0 on 0 with c;";
    fits(named + ticket + "ticket u for j when stitches t > 1 darn 1 by 1 at stitches t on 0 with c;");
    error(named + ticket + "ticket u for j darn 1 by 1 at stitches u on 0 with c;", 3, at + ticket.length() + 39);
    error(ticket + named, 3, 13);
    error("jersey j cloth 1 elbows 1;" + ticket + "card c ply 1 yards 1 price 1;", 3, 26 + 42);
  }

  private static void tooMany() {
    StringBuilder cards = new StringBuilder();
    StringBuilder hands = new StringBuilder();
    StringBuilder jerseys = new StringBuilder();
    for (int i = 0; i < 6; i++) {
      cards.append("card n" + i + " ply 1 yards 1 price 1;");
      jerseys.append("jersey n" + i + " cloth 1 elbows 1;");
      if (i < 4) hands.append("hand n" + i + " needle 1 pace 1;");
    }
    fits(cards.toString() + hands + jerseys);
    error(cards + "card c ply 1 yards 1 price 1;", 4, cards.length() + 5);
    error(hands + "hand c needle 1 pace 1;", 4, hands.length() + 5);
    error(jerseys + "jersey c cloth 1 elbows 1;", 4, jerseys.length() + 7);
    error(cards + "card n5 ply 1 yards 1 price 1;", 2, cards.length() + 5);
    error(cards + "card c ply 1 yards 1 price 1", 1, cards.length() + 28);
    StringBuilder tickets = new StringBuilder(THINGS);
    for (int i = 0; i < 12; i++) tickets.append("ticket t" + i + " for j " + STEP + ";");
    fits(tickets.toString());
    error(tickets + "ticket t12 for j " + STEP + ";", 4, tickets.length() + 7);
    error(tickets + "ticket t11 for j " + STEP + ";", 2, tickets.length() + 7);
    StringBuilder steps = new StringBuilder(THINGS + "ticket t for j " + STEP);
    for (int i = 1; i < 6; i++) steps.append(" then " + STEP);
    fits(steps + ";");
    error(steps + " then " + STEP + ";", 4, steps.length() + 6);
    error(steps + " then " + STEP + " then " + STEP + ";", 4, steps.length() + 6);
    error(steps + " then darn 1 by 1 at 0 on 0 with x;", 4, steps.length() + 6);
    fits(steps + ";ticket u for j " + STEP + ";");
  }

  private static void ranges() {
    String[] fit = {"ply 1 yards 0 price 1", "ply 9 yards 999 price 20"};
    for (String numbers : fit) fits("card c " + numbers + ";");
    error("card c ply 0 yards 0 price 1;", 5, 11);
    error("card c ply 10 yards 0 price 1;", 5, 11);
    error("card c ply 1 yards 1000 price 1;", 5, 19);
    error("card c ply 1 yards 0 price 0;", 5, 27);
    error("card c ply 1 yards 0 price 21;", 5, 27);
    fits("hand h needle 4 pace 9;");
    error("hand h needle 0 pace 9;", 5, 14);
    error("hand h needle 5 pace 9;", 5, 14);
    error("hand h needle 4 pace 0;", 5, 21);
    error("hand h needle 4 pace 10;", 5, 21);
    fits("jersey j cloth 1 elbows 0;");
    fits("jersey j cloth 20 elbows 3;");
    error("jersey j cloth 0 elbows 0;", 5, 15);
    error("jersey j cloth 21 elbows 0;", 5, 15);
    error("jersey j cloth 1 elbows 4;", 5, 24);
    summed("999999", 0, -1);
  }

  private static void firstError() {
    error("card c ply 0 yards 1000 price 1;", 5, 11);
    error("card c ply 0 yards 1 price 1;card c ply 1 yards 1 price 1;", 5, 11);
    error("card c ply 1 yards 1 price 1;card c ply 0 yards 1 price 1;", 2, 34);
    error("card c ply 0 yards 1 price 1;card", 1, 33);
    error("ticket t for j darn 1 by 1 at 0 on 0 with c; !", 1, 45);
    error("ticket t for j darn wool x by 1 at 0 on 0 with c;", 3, 13);
  }

  private static void teachingAgain() {
    DarnRoom room = Due.taught("card c ply 2 yards 9 price 3;hand h needle 1 pace 9;jersey j cloth 2 elbows 0;"
        + "ticket tt for j darn 2 by 1 at 0 on 0 with c;");
    room.pass(3);
    due.is("count(6)", room.count(6), 1);
    due.is("count(10)", room.count(10), 5);
    Due.feed(room, "jersey j cloth 9 elbows");
    long digest = digestWithoutTape(room);
    due.is("teach() with an error", room.teach(), 1);
    due.is("its errorAt()", room.errorAt(), 23);
    due.is("digest() behind it", room.digest(), digest);
    due.is("teach() of jerseys", Due.teach(room, "jersey a cloth 4 elbows 1;jersey b cloth 5 elbows 1;"), 0);
    due.is("errorAt()", room.errorAt(), -1);
    due.is("the hour stays", room.count(0), 3);
    due.is("the paper stays", room.count(10), 5);
    int[] counts = {3, 0, 0, 2, 0, 0, 0, 0, 0, 0, 5, 0};
    for (int what = 0; what < 12; what++) due.is("count(" + what + ")", room.count(what), counts[what]);
    due.is("cell(1, 0, 0)", room.cell(1, 0, 0), 5);
    due.is("teach() of nothing", room.teach(), 0);
    due.is("count(3) behind it", room.count(3), 0);
    due.is("count(0) behind it", room.count(0), 3);
  }

  /** What digest() is due to tell when the tape is empty again. */
  private static long digestWithoutTape(DarnRoom room) {
    int many = room.count(11);
    room.trim(0);
    long digest = room.digest();
    room.feed(0x6a657273, 0x6579206a, 0x20636c6f, 0x74682039, 0x20656c62);
    room.feed(0x6f777320, 0, 0, 0, 0);
    room.trim(many);
    return digest;
  }

  private static void counting() {
    DarnRoom room = Due.taught("card c ply 2 yards 9 price 3;card d ply 1 yards 1 price 1;hand h needle 1 pace 4;"
        + "jersey j cloth 2 elbows 0;jersey k cloth 1 elbows 0;jersey l cloth 1 elbows 0;"
        + "ticket a for j darn 2 by 1 at 0 on 0 with c;ticket b for j darn 8 by 1 at 0 on 0 with c;"
        + "ticket e for k darn 8 by 1 at 0 on 0 with d;ticket f for k darn 1 by 1 at 0 on 0 with d;");
    room.pass(2);
    room.wear(2, 1);
    room.feed(0, 0, 0, 0, 0);
    int[] counts = {2, 2, 1, 3, 4, 2, 1, 6, 48, 18, 4, 20};
    for (int what = 0; what < 12; what++) due.is("count(" + what + ")", room.count(what), counts[what]);
    due.refuses(room, "count(-1)", IndexOutOfBoundsException.class, () -> room.count(-1));
    due.refuses(room, "count(12)", IndexOutOfBoundsException.class, () -> room.count(12));
    due.refuses(room, "count(greatest)", IndexOutOfBoundsException.class, () -> room.count(Integer.MAX_VALUE));
  }

  /** Whether a test holds in the hour 0, with a card of 9 yards, and a ticket ahead that waits, as its test fails. */
  private static void holds(String test, boolean want) {
    DarnRoom room = Due.taught(THINGS + "ticket s for j when 1 = 2 " + STEP + ";ticket t for j when " + test + " " + STEP + ";");
    room.pass(1);
    due.is("a ticket when " + test, room.ticket(1, 0), want ? 2 : 0);
  }

  private static void reckoning() {
    holds("10 - 4 - 3 = 3", true);
    holds("100 / 10 / 5 = 2", true);
    holds("100 / 10 * 5 = 50", true);
    holds("2 + 3 * 4 = 14", true);
    holds("(2 + 3) * 4 = 20", true);
    holds("-2 * 3 = 0 - 6", true);
    holds("-(7) / 2 = -3", true);
    holds("7 / -2 = -3", true);
    holds("7 / 2 = 3", true);
    holds("7 / 0 = 0", true);
    holds("0 / 0 = 0", true);
    holds("999999 * 999999 = -(729379 * 1000 + 967)", true);
    holds("32768 * 65536 < 0", true);
    holds("32768 * 65536 - 1 > 0", true);
    holds("-(32768 * 65536) = 32768 * 65536", true);
    holds("32768 * 65536 / -1 = 32768 * 65536", true);
    holds("(32768 * 65536 - 1) + 1 = 32768 * 65536", true);
    holds("min(3, 4) = 3 and min(4, 3) = 3 and min(-4, 3) = -4", true);
    holds("max(3, 4) = 4 and max(4, 3) = 4 and max(-4, 3) = 3", true);
    holds("min(3, 4) = 4", false);
    holds("max(3, 4) = 3", false);
    holds("5 = min(3, 4) + 2", true);
    holds("5 = max(3, 4) + 2", false);
    holds("1 < 1", false);
    holds("1 < 2", true);
    holds("2 < 1", false);
    holds("1 > 1", false);
    holds("2 > 1", true);
    holds("1 > 2", false);
    holds("1 = 1", true);
    holds("1 = 2", false);
    holds("1 <= 1 and 1 <= 2", true);
    holds("2 <= 1", false);
    holds("1 >= 1 and 2 >= 1", true);
    holds("1 >= 2", false);
    holds("-1 < 1", true);
  }

  private static void joining() {
    holds("1 = 1 and 1 = 2", false);
    holds("1 = 1 or 1 = 2", true);
    holds("1 = 2 or 1 = 2", false);
    holds("1 = 1 or 1 = 1 and 1 = 2", true);
    holds("[1 = 1 or 1 = 1] and 1 = 2", false);
    holds("1 = 2 and 1 = 1 or 1 = 1", true);
    holds("not 1 = 2", true);
    holds("not not 1 = 2", false);
    String[] hold = {"1 < 2", "2 > 1", "1 = 1", "1 <= 2", "2 >= 1", "free h"};
    for (String left : hold) {
      holds("not " + left, false);
      holds("not not " + left, true);
      for (String right : hold) holds(left + " and " + right, true);
    }
    holds("not 1 = 2 and 1 = 2", false);
    holds("not [1 = 2 and 1 = 2]", true);
    holds("not 1 = 1 or 1 = 1", true);
    holds("not [1 = 1 or 1 = 1]", false);
  }

  private static void operands() {
    holds("hour = 0", true);
    holds("waits = 2", true);
    holds("wool c = 9", true);
    holds("holes j = 0", true);
    holds("thin j = 2", true);
    holds("stitches s = 0", true);
    holds("free h and free g", true);
    holds("not free h", false);
    DarnRoom room = Due.taught(THINGS + "hand i needle 1 pace 9;jersey k cloth 1 elbows 0;"
        + "ticket a for j darn 4 by 1 at 0 on 0 with c;ticket b for k when hour = 1 and wool c = 8 and stitches a = 1"
        + " and not free h and free g and waits = 1 and holes k = 0 and thin j = 2 darn 1 by 1 at 0 on 0 with c;");
    room.pass(1);
    due.is("the ticket waits in hour 0", room.ticket(1, 0), 0);
    room.pass(1);
    due.is("the ticket is done in hour 1", room.ticket(1, 4), 1);
    DarnRoom worn = Due.taught(THINGS + "jersey k cloth 1 elbows 0;ticket a for j when holes k = 48 and thin k = 0 " + STEP + ";");
    worn.pass(12);
    due.is("no hole ahead of hour 12", worn.ticket(0, 0), 0);
    worn.pass(1);
    due.is("all holes in hour 12", worn.ticket(0, 4), 12);
  }

  private static void operandsOfTheFirst() {
    DarnRoom room = Due.taught(THINGS + "ticket a for j when holes j = 48 and thin j = 0 " + STEP + ";");
    room.wear(0, 1);
    room.pass(1);
    due.is("the ticket waits", room.ticket(0, 0), 0);
    room.wear(0, 1);
    room.pass(1);
    due.is("the ticket is done", room.ticket(0, 0), 2);
  }
}
