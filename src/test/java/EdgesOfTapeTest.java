/** The edges of the tape and of its tokens, a function for each sentence. */
public final class EdgesOfTapeTest {
  private static final String HAND = Rooms.HAND;
  private static final String[] KEYWORDS = ("card ply yards price hand needle pace jersey cloth elbows ticket for when darn by at on"
      + " with then hour waits wool holes thin stitches free not and or min max").split(" ");
  private static final Due due = new Due();

  public static void main(String[] args) {
    tapeOfTwoThousand();
    fullTape();
    atFirstEmpty();
    emptyBehindTeach();
    blanksAtTheEnds();
    blanksBetween();
    onlyBlanks();
    betweenTwoTokens();
    longestToken();
    signsOfWords();
    wordOfTenBytes();
    wordsOfTenBytesDiffer();
    signsOfNumbers();
    numberOfSixDigits();
    symbols();
    keywords();
    due.end("EdgesOfTapeTest");
  }

  private static void error(String text, int error, int at) {
    DarnRoom room = new DarnRoom();
    due.is("teach() of " + text, Due.teach(room, text), error);
    due.is("errorAt() behind " + text, room.errorAt(), at);
  }

  private static void fits(String text) {
    error(text, 0, -1);
  }

  private static String behindBlanks(int bytes) {
    return Rooms.times(bytes - HAND.length(), " ") + HAND;
  }

  private static void refusesFeed(DarnRoom room) {
    due.refuses(room, "feed() with " + room.count(11) + " bytes", IllegalStateException.class, () -> room.feed(-1, -1, -1, -1, -1));
  }

  private static void tapeOfTwoThousand() {
    due.says("The tape is a row of at most 2000 bytes");
    for (int bytes = 1980; bytes <= 2000; bytes++) {
      DarnRoom room = new DarnRoom();
      Due.feed(room, behindBlanks(bytes));
      due.is("count(11)", room.count(11), bytes);
      if (bytes == 1980) due.is("feed() with 1980 bytes", room.feed(0x20202020, 0x20202020, 0x20202020, 0x20202020, 0x20202020), 2000);
      refusesFeed(room);
      due.is("teach() of the same tape", room.teach(), 0);
      due.is("its hands", room.count(2), 1);
    }
  }

  private static void fullTape() {
    due.says("The tape is a row of at most 2000 bytes");
    DarnRoom room = new DarnRoom();
    for (int i = 1; i <= 100; i++) due.is("feed " + i, room.feed(0x20202020, 0x20202020, 0x20202020, 0x20202020, 0x20202021), 20 * i);
    refusesFeed(room);
    room.trim(19);
    due.is("teach() of blanks", room.teach(), 0);
    error(behindBlanks(2000), 0, -1);
    error(behindBlanks(2000).replace(';', ' '), 1, 2000);
    error(behindBlanks(2000).replace(';', '!'), 1, 1999);
    error(behindBlanks(1999) + "x", 1, 1999);
    error(Rooms.times(1999, "\n") + "\0", 1, 1999);
    String wide = "hand" + Rooms.times(2000 - HAND.length(), " ") + HAND.substring(4);
    fits(wide);
    error(wide.replace("pace 1", "pace 0"), 5, 1998);
  }

  private static void atFirstEmpty() {
    due.says("at first empty");
    DarnRoom room = new DarnRoom();
    due.is("count(11)", room.count(11), 0);
    due.refuses(room, "trim(1)", IllegalArgumentException.class, () -> room.trim(1));
    due.is("teach()", room.teach(), 0);
    due.is("feed()", room.feed(0, 0, 0, 0, 0), 20);
  }

  private static void emptyBehindTeach() {
    due.says("teach reads it as a bundle, and it is empty behind it");
    for (String text : new String[] {HAND, "!", HAND + HAND, "", Rooms.TICKET, "hand h needle 9 pace 1;"}) {
      DarnRoom room = new DarnRoom();
      Due.teach(room, text);
      due.is("count(11) behind teach() of " + text, room.count(11), 0);
      due.refuses(room, "trim(1) behind it", IllegalArgumentException.class, () -> room.trim(1));
      due.is("teach() again", room.teach(), 0);
      due.is("hands of nothing", room.count(2), 0);
      due.is("feed() behind it", room.feed(0, 0, 0, 0, 0), 20);
    }
  }

  private static void blanksAtTheEnds() {
    due.says("Blanks (32) and line ends (10) can stand between tokens, at the beginning and at the end");
    for (int sign = 0; sign < 256; sign++) {
      boolean blank = sign == 32 || sign == 10;
      error((char) sign + HAND, blank ? 0 : 1, blank ? -1 : 0);
      error(HAND + (char) sign, blank ? 0 : 1, blank ? -1 : HAND.length());
    }
  }

  private static void blanksBetween() {
    due.says("Blanks (32) and line ends (10) can stand between tokens, at the beginning and at the end");
    for (int sign = 0; sign < 256; sign++) {
      boolean blank = sign == 32 || sign == 10;
      boolean inWord = sign >= 'a' && sign <= 'z' || sign >= '0' && sign <= '9';
      error("hand" + (char) sign + "h needle 1 pace 1;", blank ? 0 : 1, blank ? -1 : inWord ? 0 : 4);
      error(HAND + (char) sign + "hand g needle 1 pace 1;", blank ? 0 : 1, blank ? -1 : HAND.length());
    }
    fits(" \n\n hand  \n h\n\nneedle\n1  pace\n1\n ;\n \n");
  }

  private static void onlyBlanks() {
    due.says("at the beginning and at the end");
    fits("");
    fits(" ");
    fits("\n");
    fits(Rooms.times(1000, " \n"));
  }

  private static void betweenTwoTokens() {
    due.says("have to stand between two tokens that would otherwise be read as one");
    error("handh needle 1 pace 1;", 1, 0);
    error("hand hneedle 1 pace 1;", 1, 13);
    error("hand h needle1 pace 1;", 1, 7);
    error("hand h needle 1 pace1;", 1, 16);
    fits("hand h needle 1pace 1;");
    error("card c ply 1 yards 1 1 price 1;", 1, 21);
    fits("card c ply 1 yards 11 price 1;");
    String before = Rooms.THINGS + "ticket t for j when ";
    String behind = " " + Rooms.STEP + ";";
    fits(before + "1<=2and 2>=1and not[1<1]and-1<min(1,2)or free h" + behind);
    error(before + "1 < =2" + behind, 1, before.length() + 4);
    error(before + "1 > =2" + behind, 1, before.length() + 4);
    error(before + "notfree h" + behind, 1, before.length());
    error(before + "1<2and2<3" + behind, 1, before.length() + 3);
  }

  private static void longestToken() {
    due.says("The longest possible token is always read.");
    String before = Rooms.THINGS + "ticket t for j when ";
    String behind = " " + Rooms.STEP + ";";
    fits(before + "1<=2" + behind);
    fits(before + "1>=2" + behind);
    error(before + "1<==2" + behind, 1, before.length() + 3);
    error(before + "1>==2" + behind, 1, before.length() + 3);
    error(before + "1=<2" + behind, 1, before.length() + 2);
    error(before + "1=>2" + behind, 1, before.length() + 2);
    error(before + "1<>2" + behind, 1, before.length() + 2);
    fits("hand hands needle 1 pace 1;");
    fits("hand hand1 needle 1 pace 1;");
    error("hands h needle 1 pace 1;", 1, 0);
    error("hand 1h needle 1 pace 1;", 1, 5);
    DarnRoom room = Due.taught("card c ply 1 yards 123 price 1;");
    due.is("yards of 123", room.card(0, 1), 123);
  }

  private static void signsOfWords() {
    due.says("A word: a letter a to z, followed by letters a to z and digits");
    for (int sign = 0; sign < 256; sign++) {
      boolean blank = sign == 32 || sign == 10;
      boolean letter = sign >= 'a' && sign <= 'z';
      boolean inWord = letter || sign >= '0' && sign <= '9';
      error("hand " + (char) sign + " needle 1 pace 1;", letter ? 0 : 1, letter ? -1 : blank ? 7 : 5);
      error("hand x" + (char) sign + " needle 1 pace 1;", inWord || blank ? 0 : 1, inWord || blank ? -1 : 6);
      error("hand x" + (char) sign + "x needle 1 pace 1;", inWord ? 0 : 1, inWord ? -1 : blank ? 7 : 6);
    }
  }

  private static void wordOfTenBytes() {
    due.says("at most 10 bytes");
    String letters = "abcdefghijklmnopqrst";
    String digits = "a0123456789012345678";
    for (int bytes = 1; bytes <= 20; bytes++) {
      for (String word : new String[] {letters.substring(0, bytes), digits.substring(0, bytes)}) {
        boolean fits = bytes <= 10;
        error("hand " + word + " needle 1 pace 1;", fits ? 0 : 1, fits ? -1 : 5);
        error("card " + word + " ply 1 yards 1 price 1;", fits ? 0 : 1, fits ? -1 : 5);
        error("jersey " + word + " cloth 1 elbows 1;", fits ? 0 : 1, fits ? -1 : 7);
        error(Rooms.TICKET.replace("for j", "for " + word), fits ? 3 : 1, 13);
      }
    }
    error("cardcardcar", 1, 0);
    error("hand hneedleneedl 1 pace 1;", 1, 5);
  }

  private static void wordsOfTenBytesDiffer() {
    due.says("at most 10 bytes");
    String[] names = {"abcdefghij", "abcdefghik", "abcdefghi0", "bbcdefghij"};
    StringBuilder bundle = new StringBuilder(Rooms.THINGS);
    for (String name : names) bundle.append("ticket " + name + " for j darn 0 by 1 at 0 on 0 with c;");
    fits(bundle.toString());
    error(bundle + "ticket abcdefghik for j darn 0 by 1 at 0 on 0 with c;", 2, bundle.length() + 7);
    for (String name : new String[] {"zzzzzzzzzz", "z999999999", "a000000000", "aaaaaaaaaa", "z", "a0", "aa"}) {
      DarnRoom room = Due.taught(Rooms.THINGS + "ticket " + name + " for j darn 0 by 1 at 0 on 0 with c;");
      room.pass(1);
      due.holds("the slip of " + name, Due.paper(room).equals(name + " 0\n"));
    }
  }

  private static void signsOfNumbers() {
    due.says("A number: 1 to 6 digits.");
    for (int sign = 0; sign < 256; sign++) {
      boolean blank = sign == 32 || sign == 10;
      boolean digit = sign >= '0' && sign <= '9';
      error("card c ply 1 yards " + (char) sign + " price 1;", digit ? 0 : 1, digit ? -1 : blank ? 21 : 19);
      error("card c ply 1 yards 1" + (char) sign + " price 1;", digit || blank ? 0 : 1, digit || blank ? -1 : 20);
      if (digit) due.is("yards", Due.taught("card c ply 1 yards " + (char) sign + " price 1;").card(0, 1), sign - '0');
    }
  }

  private static void numberOfSixDigits() {
    due.says("A number: 1 to 6 digits.");
    for (int digits = 1; digits <= 12; digits++) {
      boolean fits = digits <= 6;
      error("hand h needle " + Rooms.times(digits - 1, "0") + "3 pace 1;", fits ? 0 : 1, fits ? -1 : 14);
      String before = Rooms.THINGS + "ticket t for j darn 0*";
      error(before + Rooms.times(digits, "9") + " by 1 at 0 on 0 with c;", fits ? 0 : 1, fits ? -1 : before.length());
    }
    error("hand h needle 4294967297 pace 1;", 1, 14);
    due.is("needle 000003", Due.taught("hand h needle 000003 pace 1;").hand(0, 0), 3);
    due.holds("999999 = 1000 * 1000 - 1", Rooms.holds("999999 = 1000 * 1000 - 1"));
    due.holds("100000 = 1000 * 100", Rooms.holds("100000 = 1000 * 100"));
    due.holds("000000 = 0", Rooms.holds("000000 = 0"));
  }

  private static void symbols() {
    due.says("Symbols: ( ) [ ] ; , + - * / < > = <= >=");
    String inSum = Rooms.THINGS + "ticket t for j darn 1 ";
    String inTest = Rooms.THINGS + "ticket t for j when 1 ";
    for (int sign = 33; sign < 256; sign++) {
      if (sign >= '0' && sign <= '9' || sign >= 'a' && sign <= 'z') continue;
      boolean sums = "+-*/".indexOf(sign) >= 0;
      error(inSum + (char) sign + " 2 by 1 at 0 on 0 with c;", sums ? 0 : 1, sums ? -1 : inSum.length());
      boolean compares = "<>=".indexOf(sign) >= 0;
      String test = inTest + (char) sign + " 2 " + Rooms.STEP + ";";
      // Behind a sign of sums 2 is read, and only darn stands where no test goes on.
      error(test, compares ? 0 : 1, compares ? -1 : inTest.length() + (sums ? 4 : 0));
    }
    fits(inTest + "<= 2 and [(1) >= min(1, 2)] " + Rooms.STEP + ";");
  }

  private static void keywords() {
    due.says("All other words are names.");
    for (String keyword : KEYWORDS) {
      error("hand " + keyword + " needle 1 pace 1;", 1, 5);
      fits("hand " + keyword + "s needle 1 pace 1;");
      fits("hand " + keyword + "0 needle 1 pace 1;");
      fits("hand x" + keyword + " needle 1 pace 1;");
      fits("hand " + keyword.substring(0, keyword.length() - 1) + " needle 1 pace 1;");
    }
  }
}
