import java.util.ArrayList;
import java.util.List;

/** The edges of errors 2 to 5, and of which one is told, a function for each sentence. */
public final class EdgesOfErrorsTest {
  private static final String THINGS = Rooms.THINGS;
  private static final String STEP = Rooms.STEP;
  private static final Due due = new Due();

  public static void main(String[] args) {
    onlyWithoutErrorOne();
    fromLeftToRight();
    leftToRightInALine();
    smallestAtOneToken();
    toldTwice();
    toldTwiceOfTheSameSort();
    namesOfJerseys();
    namesOfCards();
    namesOfHands();
    namesOfTickets();
    notInItsOwn();
    sixCards();
    fourHands();
    sixJerseys();
    twelveTickets();
    sixSteps();
    allAtMost();
    tooManyOnlyOfABundle();
    rangesOfCards();
    rangesOfHands();
    rangesOfJerseys();
    noOtherRanges();
    numberedAsTold();
    due.end("EdgesOfErrorsTest");
  }

  private static void error(String text, int error, int at) {
    DarnRoom room = new DarnRoom();
    due.is("teach() of " + text, Due.teach(room, text), error);
    due.is("errorAt() behind " + text, room.errorAt(), at);
    if (error != 0) due.is("things behind " + text, room.count(1) + room.count(2) + room.count(3) + room.count(4), 0);
  }

  private static void fits(String text) {
    error(text, 0, -1);
  }

  private static String card(String name) {
    return "card " + name + " ply 1 yards 0 price 1;";
  }

  private static String hand(String name) {
    return "hand " + name + " needle 1 pace 1;";
  }

  private static String jersey(String name) {
    return "jersey " + name + " cloth 1 elbows 0;";
  }

  private static String ticket(String name) {
    return "ticket " + name + " for j " + STEP + ";";
  }

  private static String sevenSteps(String name) {
    return "ticket " + name + " for j " + STEP + Rooms.times(6, " then " + STEP) + ";";
  }

  private static int seventhDarn(String ticket) {
    return ticket.lastIndexOf("darn");
  }

  /** Lines behind THINGS with just one error each. */
  private static final String[] WRONG_LINES = {card("c"), "ticket u for x " + STEP + ";", sevenSteps("v"), "hand k needle 5 pace 1;"};
  private static final int[] WRONG_PLACES = {5, 13, seventhDarn(sevenSteps("v")), 14};

  private static void onlyWithoutErrorOne() {
    due.says("Only if there is no error 1, keywords, names and numbers are looked at");
    for (int i = 0; i < 4; i++) {
      String text = THINGS + WRONG_LINES[i];
      error(text, 2 + i, THINGS.length() + WRONG_PLACES[i]);
      error(text + "!", 1, text.length());
      error(text + "hand", 1, text.length() + 4);
      error(text + "hand h needle 1 pace 1234567;", 1, text.length() + 21);
      error(text.substring(0, text.length() - 1), 1, text.length() - 1);
    }
  }

  private static void fromLeftToRight() {
    due.says("looked at from left to right, and the first error is told, at its token");
    for (int first = 0; first < 4; first++) {
      for (int second = 0; second < 4; second++) {
        error(THINGS + WRONG_LINES[first] + WRONG_LINES[second], 2 + first, THINGS.length() + WRONG_PLACES[first]);
      }
    }
  }

  private static void leftToRightInALine() {
    due.says("looked at from left to right, and the first error is told, at its token");
    int at = THINGS.length();
    error(THINGS + "card c ply 0 yards 1000 price 0;", 2, at + 5);
    error(THINGS + "card d ply 0 yards 1000 price 0;", 5, at + 11);
    error(THINGS + "card d ply 1 yards 1000 price 0;", 5, at + 19);
    error(THINGS + "hand k needle 0 pace 0;", 5, at + 14);
    error(THINGS + "jersey k cloth 0 elbows 4;", 5, at + 15);
    error(THINGS + "ticket t for x darn 1 by 1 at 0 on 0 with y;", 3, at + 13);
    error(THINGS + "ticket t for j when free x darn wool y by 1 at 0 on 0 with z;", 3, at + 25);
    error(THINGS + "ticket t for j darn wool y by 1 at 0 on 0 with z;", 3, at + 25);
    error(THINGS + ticket("t") + "ticket t for x " + STEP + ";", 2, at + ticket("t").length() + 7);
    String unknown = sevenSteps("t").replaceFirst("with c", "with x");
    error(THINGS + unknown, 3, at + unknown.indexOf("x"));
    String seventh = sevenSteps("t");
    error(THINGS + seventh.substring(0, seventh.length() - 2) + "x;", 4, at + seventhDarn(seventh));
  }

  private static void smallestAtOneToken() {
    due.says("of errors at one token the one with the smallest number");
    String cards = many(6, "card");
    error(cards + card("n6"), 4, cards.length() + 5);
    for (int i = 0; i < 6; i++) error(cards + card("n" + i), 2, cards.length() + 5);
    String hands = many(4, "hand");
    error(hands + hand("n4"), 4, hands.length() + 5);
    for (int i = 0; i < 4; i++) error(hands + hand("n" + i), 2, hands.length() + 5);
    String jerseys = many(6, "jersey");
    error(jerseys + jersey("n6"), 4, jerseys.length() + 7);
    for (int i = 0; i < 6; i++) error(jerseys + jersey("n" + i), 2, jerseys.length() + 7);
    String tickets = THINGS + many(12, "ticket");
    error(tickets + ticket("n12"), 4, tickets.length() + 7);
    for (int i = 0; i < 12; i++) error(tickets + ticket("n" + i), 2, tickets.length() + 7);
  }

  private static String many(int many, String sort) {
    StringBuilder text = new StringBuilder();
    for (int i = 0; i < many; i++) {
      String name = "n" + i;
      text.append(sort.equals("card") ? card(name) : sort.equals("hand") ? hand(name) : sort.equals("jersey") ? jersey(name) : ticket(name));
    }
    return text.toString();
  }

  private static void toldTwice() {
    due.says("Error 2: the name behind card, hand, jersey or ticket is that of one of the same sort told ahead.");
    for (String sort : new String[] {"card", "hand", "jersey", "ticket"}) {
      String before = THINGS + many(3, sort);
      for (int i = 0; i < 3; i++) {
        String again = many(i + 1, sort).substring(many(i, sort).length());
        error(before + again, 2, before.length() + sort.length() + 1);
        error(before + card("k") + again, 2, before.length() + card("k").length() + sort.length() + 1);
      }
    }
    error(THINGS + card("c"), 2, THINGS.length() + 5);
    error(THINGS + hand("h"), 2, THINGS.length() + 5);
    error(THINGS + jersey("j"), 2, THINGS.length() + 7);
    fits(THINGS + card("d") + hand("i") + jersey("k") + ticket("t") + ticket("u"));
  }

  private static void toldTwiceOfTheSameSort() {
    due.says("is that of one of the same sort told ahead");
    fits(card("a") + hand("a") + jersey("a") + "ticket a for a darn 1 by 1 at 0 on 0 with a;");
    fits(jersey("a") + hand("a") + card("a") + "ticket a for a darn 1 by 1 at 0 on 0 with a;");
    String ahead = card("a") + hand("a") + jersey("a");
    error(ahead + hand("a"), 2, ahead.length() + 5);
    error(ahead + card("a"), 2, ahead.length() + 5);
    error(ahead + jersey("a"), 2, ahead.length() + 7);
    fits(card("a") + card("aa") + card("a1") + card("a0") + card("b"));
  }

  /** A name in each of a ticket's places that sums and tests have: the whole text, with % where the name stands. */
  private static List<String> placesOf(String value) {
    List<String> places = new ArrayList<>();
    places.add("ticket u for j when " + value + " < 2 " + STEP + ";");
    places.add("ticket u for j when 1 < 2 and [2 > " + value + "] " + STEP + ";");
    places.add("ticket u for j darn " + value + " by 1 at 0 on 0 with c;");
    places.add("ticket u for j darn 1 by (" + value + ") at 0 on 0 with c;");
    places.add("ticket u for j darn 1 by 1 at -" + value + " on 0 with c;");
    places.add("ticket u for j darn 1 by 1 at 0 on max(1, " + value + ") with c;");
    places.add("ticket u for j " + STEP + " then darn 1 by 1 at 0 on " + value + " with c;");
    return places;
  }

  /** In these places a name fits, that is told ahead; the others are none of what they have to be. */
  private static void named(List<String> places, String told, String later, String... others) {
    String before = THINGS + ticket("t");
    for (String place : places) {
      int at = before.length() + place.indexOf('%');
      fits(before + place.replace("%", told));
      for (String other : others) error(before + place.replace("%", other), 3, at);
      error(before + place.replace("%", "k") + later, 3, at);
      fits(before + later + place.replace("%", "k"));
    }
  }

  private static void namesOfJerseys() {
    due.says("behind for, holes and thin of a jersey");
    List<String> places = placesOf("holes %");
    places.addAll(placesOf("thin %"));
    places.add("ticket u for % " + STEP + ";");
    named(places, "j", jersey("k"), "c", "h", "t", "u", "x", "j1", "jj");
  }

  private static void namesOfCards() {
    due.says("behind with and wool of a card");
    List<String> places = placesOf("wool %");
    places.add("ticket u for j darn 1 by 1 at 0 on 0 with %;");
    places.add("ticket u for j " + STEP + " then darn 1 by 1 at 0 on 0 with %;");
    named(places, "c", card("k"), "j", "h", "t", "u", "x", "c1", "cc");
  }

  private static void namesOfHands() {
    due.says("behind free of a hand");
    List<String> places = new ArrayList<>();
    places.add("ticket u for j when free % " + STEP + ";");
    places.add("ticket u for j when 1 < 2 or not [free %] " + STEP + ";");
    named(places, "h", hand("k"), "j", "c", "t", "u", "x", "h1", "hh");
  }

  private static void namesOfTickets() {
    due.says("behind stitches of a ticket");
    named(placesOf("stitches %"), "t", ticket("k"), "j", "c", "h", "u", "x", "t1", "tt");
  }

  private static void notInItsOwn() {
    due.says("(in its own test and steps a ticket is not told ahead)");
    for (String place : placesOf("stitches u")) {
      int own = place.indexOf("stitches u") + 9;
      error(THINGS + place, 3, THINGS.length() + own);
      error(THINGS + ticket("t") + place, 3, THINGS.length() + ticket("t").length() + own);
      fits(THINGS + ticket("u") + place.replace("ticket u", "ticket v"));
      error(THINGS + ticket("u") + place, 2, THINGS.length() + ticket("u").length() + 7);
    }
  }

  private static void sixCards() {
    due.says("Error 4: the name of the 7th card");
    fits(many(6, "card"));
    String five = many(5, "card");
    error(five + card("x") + card("y"), 4, (five + card("x")).length() + 5);
    error(many(6, "card") + hand("h") + card("x"), 4, (many(6, "card") + hand("h")).length() + 5);
    error(many(6, "card") + "card x ply 0 yards 1 price 1;", 4, many(6, "card").length() + 5);
  }

  private static void fourHands() {
    due.says("Error 4: the name ... of the 5th hand");
    fits(many(4, "hand"));
    String three = many(3, "hand");
    error(three + hand("x") + hand("y"), 4, (three + hand("x")).length() + 5);
    error(many(4, "hand") + card("c") + hand("x"), 4, (many(4, "hand") + card("c")).length() + 5);
    error(many(4, "hand") + "hand x needle 5 pace 1;", 4, many(4, "hand").length() + 5);
  }

  private static void sixJerseys() {
    due.says("Error 4: the name ... of the 7th jersey");
    fits(many(6, "jersey"));
    String five = many(5, "jersey");
    error(five + jersey("x") + jersey("y"), 4, (five + jersey("x")).length() + 7);
    error(many(6, "jersey") + hand("h") + jersey("x"), 4, (many(6, "jersey") + hand("h")).length() + 7);
    error(many(6, "jersey") + "jersey x cloth 21 elbows 1;", 4, many(6, "jersey").length() + 7);
  }

  private static void twelveTickets() {
    due.says("Error 4: the name ... of the 13th ticket");
    String twelve = THINGS + many(12, "ticket");
    fits(twelve);
    fits(twelve + hand("k"));
    error(twelve + ticket("x"), 4, twelve.length() + 7);
    error(twelve + ticket("x") + ticket("y"), 4, twelve.length() + 7);
    error(twelve + "ticket x for y " + STEP + ";", 4, twelve.length() + 7);
    error(twelve + card("d") + ticket("x"), 4, (twelve + card("d")).length() + 7);
  }

  private static void sixSteps() {
    due.says("Error 4: ... the darn of the 7th step of a ticket");
    for (int steps = 1; steps <= 9; steps++) {
      String text = THINGS + "ticket t for j";
      for (int i = 1; i <= steps; i++) text += (i == 1 ? " " : " then ") + STEP;
      int seventh = THINGS.length() + 15 + 6 * (STEP + " then ").length();
      error(text + ";", steps <= 6 ? 0 : 4, steps <= 6 ? -1 : seventh);
      if (steps == 6) {
        fits(text + ";" + text.substring(THINGS.length()).replace("ticket t", "ticket u") + ";");
        error(text + ";" + sevenSteps("u"), 4, text.length() + 1 + seventhDarn(sevenSteps("u")));
        error(text + ";" + ticket("u") + sevenSteps("v"), 4, (text + ";" + ticket("u")).length() + seventhDarn(sevenSteps("v")));
      }
    }
  }

  private static void allAtMost() {
    due.says("Error 4: the name of the 7th card, of the 5th hand, of the 7th jersey or of the 13th ticket");
    String all = many(6, "card") + many(4, "hand") + many(6, "jersey");
    for (int i = 0; i < 12; i++) all += "ticket n" + i + " for n5 darn 1 by 1 at 0 on 0 with n5;";
    fits(all);
    DarnRoom room = Due.taught(all);
    int[] counts = {6, 4, 6, 12};
    for (int i = 0; i < 4; i++) due.is("count(" + (i + 1) + ")", room.count(i + 1), counts[i]);
    error(all + card("x"), 4, all.length() + 5);
    error(all + hand("x"), 4, all.length() + 5);
    error(all + jersey("x"), 4, all.length() + 7);
    error(all + "ticket x for n0 darn 1 by 1 at 0 on 0 with n0;", 4, all.length() + 7);
  }

  private static void tooManyOnlyOfABundle() {
    due.says("Error 4: the name of the 7th card");
    DarnRoom room = new DarnRoom();
    String full = many(6, "card") + many(4, "hand") + many(6, "jersey");
    for (int i = 0; i < 5; i++) {
      due.is("teach() of a full bundle", Due.teach(room, full), 0);
      due.is("teach() of a card too many", Due.teach(room, full + card("x")), 4);
      due.is("count(1)", room.count(1), 6);
      due.is("count(2)", room.count(2), 4);
      due.is("count(3)", room.count(3), 6);
    }
  }

  /** A number of a line, for which % stands, fits from least to most. */
  private static void range(String line, int least, int most) {
    int at = line.indexOf('%');
    int[] numbers = {least - 1, least, least + 1, most - 1, most, most + 1, most + 256, 65536 + least, 999999};
    for (int number : numbers) {
      if (number < 0) continue;
      boolean fits = number >= least && number <= most;
      error(line.replace("%", Integer.toString(number)), fits ? 0 : 5, fits ? -1 : at);
    }
    error(line.replace("%", "000000"), least == 0 ? 0 : 5, least == 0 ? -1 : at);
    for (int number = 0; number <= 1010; number++) {
      boolean fits = number >= least && number <= most;
      DarnRoom room = new DarnRoom();
      due.is("teach() of " + line + " with " + number, Due.teach(room, line.replace("%", "" + number)), fits ? 0 : 5);
    }
  }

  private static void rangesOfCards() {
    due.says("Error 5: a number is out of its range: ply 1 to 9, yards 0 to 999, price 1 to 20");
    range("card c ply % yards 5 price 5;", 1, 9);
    range("card c ply 5 yards % price 5;", 0, 999);
    range("card c ply 5 yards 5 price %;", 1, 20);
    DarnRoom room = Due.taught("card a ply 1 yards 0 price 1;card b ply 9 yards 999 price 20;");
    int[] least = {1, 0, 1};
    int[] most = {9, 999, 20};
    for (int what = 0; what < 3; what++) {
      due.is("card(0, " + what + ")", room.card(0, what), least[what]);
      due.is("card(1, " + what + ")", room.card(1, what), most[what]);
    }
  }

  private static void rangesOfHands() {
    due.says("Error 5: a number is out of its range: ... needle 1 to 4, pace 1 to 9");
    range("hand h needle % pace 5;", 1, 4);
    range("hand h needle 3 pace %;", 1, 9);
    DarnRoom room = Due.taught("hand a needle 1 pace 1;hand b needle 4 pace 9;");
    due.is("hand(0, 0)", room.hand(0, 0), 1);
    due.is("hand(0, 1)", room.hand(0, 1), 1);
    due.is("hand(1, 0)", room.hand(1, 0), 4);
    due.is("hand(1, 1)", room.hand(1, 1), 9);
  }

  private static void rangesOfJerseys() {
    due.says("Error 5: a number is out of its range: ... cloth 1 to 20, elbows 0 to 3");
    range("jersey j cloth % elbows 2;", 1, 20);
    range("jersey j cloth 5 elbows %;", 0, 3);
    DarnRoom room = Due.taught("jersey a cloth 1 elbows 0;jersey b cloth 20 elbows 3;");
    due.is("cell(0, 0, 0)", room.cell(0, 0, 0), 1);
    due.is("cell(1, 0, 0)", room.cell(1, 0, 0), 20);
    room.wear(1, 1);
    due.is("cell(1, 1, 2), an elbow", room.cell(1, 1, 2), 16);
  }

  private static void noOtherRanges() {
    due.says("Error 5: a number is out of its range");
    for (String number : new String[] {"0", "1", "10", "21", "1000", "999999", "000000"}) {
      for (String place : placesOf(number)) fits(THINGS + place);
    }
  }

  private static void numberedAsTold() {
    due.says("Cards, hands, jerseys and tickets are numbered from 0 in the order in which they are told.");
    StringBuilder text = new StringBuilder();
    for (int i = 0; i < 4; i++) {
      text.append("jersey x" + (9 - i) + " cloth " + (5 + i) + " elbows 0;card x" + (9 - i) + " ply " + (9 - i) + " yards 0 price 1;");
      text.append("ticket x" + (9 - i) + " for x9 darn 1 by 1 at 0 on 0 with x9" + Rooms.times(i, " then darn 1 by 1 at 0 on 0 with x9") + ";");
      text.append("hand x" + (9 - i) + " needle 1 pace " + (9 - i) + ";");
    }
    DarnRoom room = Due.taught(text.toString());
    for (int i = 0; i < 4; i++) {
      due.is("cell(" + i + ", 0, 0)", room.cell(i, 0, 0), 5 + i);
      due.is("card(" + i + ", 0)", room.card(i, 0), 9 - i);
      due.is("hand(" + i + ", 1)", room.hand(i, 1), 9 - i);
      due.is("ticket(" + i + ", 7)", room.ticket(i, 7), 1 + i);
      due.is("ticket(" + i + ", 6)", room.ticket(i, 6), 0);
    }
  }
}
