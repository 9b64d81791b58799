/** The edges of the grammar, of its depth and of error 1, a function for each sentence. */
public final class EdgesOfGrammarTest {
  private static final String IN_SUM = Rooms.THINGS + Rooms.TICKET + "ticket u for j darn ";
  private static final String BEHIND_SUM = " by 1 at 0 on 0 with c;";
  private static final String IN_TEST = Rooms.THINGS + Rooms.TICKET + "ticket u for j when ";
  private static final String BEHIND_TEST = " " + Rooms.STEP + ";";
  private static final Due due = new Due();

  public static void main(String[] args) {
    anyNumberOfTimes();
    orNothing();
    eachTokenLeftOut();
    eachTokenTwice();
    eachEndOfTheTape();
    depthOfOneKind();
    depthOfMixedKinds();
    depthInTests();
    depthBehindTheEnd();
    depthOfWhatIsTurned();
    depthOfDifferences();
    depthAtEachBeginning();
    fourHundredTokens();
    theTokenBehindThem();
    fewerThanFourHundred();
    errorOneAtItsFirstByte();
    firstOfSeveral();
    due.end("EdgesOfGrammarTest");
  }

  private static void error(String text, int error, int at) {
    DarnRoom room = new DarnRoom();
    due.is("teach() of " + text, Due.teach(room, text), error);
    due.is("errorAt() behind " + text, room.errorAt(), at);
  }

  private static void fits(String text) {
    error(text, 0, -1);
  }

  /** Error 1 at a place of the sum, or none if this is -1. */
  private static void sum(String sum, int at) {
    error(IN_SUM + sum + BEHIND_SUM, at < 0 ? 0 : 1, at < 0 ? -1 : IN_SUM.length() + at);
  }

  private static void test(String test, int at) {
    error(IN_TEST + test + BEHIND_TEST, at < 0 ? 0 : 1, at < 0 ? -1 : IN_TEST.length() + at);
  }

  private static void anyNumberOfTimes() {
    due.says("{ x } any number of times, also none");
    fits("");
    fits(Rooms.HAND);
    fits(Rooms.HAND + "hand i needle 1 pace 1;hand k needle 1 pace 1;");
    for (int i = 0; i < 6; i++) fits(Rooms.THINGS + "ticket t for j " + Rooms.STEP + Rooms.times(i, " then " + Rooms.STEP) + ";");
    for (int i = 0; i < 30; i++) {
      sum("1" + Rooms.times(i, " + 1"), -1);
      sum("1" + Rooms.times(i, " - 1 * 2"), -1);
      sum("1" + Rooms.times(i, " / 1"), -1);
      test("1 < 2" + Rooms.times(i, " or 1 < 2"), -1);
      test("1 < 2" + Rooms.times(i, " and free h"), -1);
    }
  }

  private static void orNothing() {
    due.says("[ x ] outside of quotation marks means x or nothing");
    fits(Rooms.THINGS + "ticket t for j " + Rooms.STEP + ";");
    fits(Rooms.THINGS + "ticket t for j when 1 < 2 " + Rooms.STEP + ";");
    String twice = Rooms.THINGS + "ticket t for j when 1 < 2 when 1 < 2 " + Rooms.STEP + ";";
    error(twice, 1, Rooms.THINGS.length() + 26);
    String late = Rooms.THINGS + "ticket t for j " + Rooms.STEP + " when 1 < 2;";
    error(late, 1, Rooms.THINGS.length() + 15 + Rooms.STEP.length() + 1);
  }

  private static void eachTokenLeftOut() {
    due.says("Error 1: the first token with which the tokens so far are not the beginning of a bundle.");
    for (String line : new String[] {Rooms.CARD, Rooms.HAND, Rooms.JERSEY, Rooms.TICKET}) {
      int[] starts = Rooms.starts(line);
      for (int i = 0; i + 1 < starts.length; i++) {
        String without = line.substring(0, starts[i]) + Rooms.times(starts[i + 1] - starts[i], " ") + line.substring(starts[i + 1]);
        error(without, 1, starts[i + 1]);
      }
    }
  }

  private static void eachTokenTwice() {
    due.says("Error 1: the first token with which the tokens so far are not the beginning of a bundle.");
    for (String line : new String[] {Rooms.CARD, Rooms.HAND, Rooms.JERSEY, Rooms.TICKET}) {
      int[] starts = Rooms.starts(line);
      for (int i = 0; i + 1 < starts.length; i++) {
        String token = line.substring(starts[i], Rooms.endOf(line, starts[i]));
        error(line.substring(0, starts[i]) + token + " " + line.substring(starts[i]), 1, starts[i] + token.length() + 1);
      }
    }
  }

  private static void eachEndOfTheTape() {
    due.says("the end of the tape (at its length)");
    String text = Rooms.THINGS + Rooms.TICKET + "ticket u for j when not free h and [1 + hour <= waits or -wool c / 2 = min(holes j, thin j) * 3] "
        + "darn (max(1, 2)) by stitches t - 1 at 0 on 0 with c then " + Rooms.STEP + ";" + Rooms.HAND.replace("h ", "k ");
    fits(text);
    int[] starts = Rooms.starts(text);
    for (int i = 0; i + 1 < starts.length; i++) {
      int end = Rooms.endOf(text, starts[i]);
      boolean whole = text.charAt(end - 1) == ';';
      error(text.substring(0, end), whole ? 0 : 1, whole ? -1 : end);
      error(text.substring(0, end) + " \n ", whole ? 0 : 1, whole ? -1 : end + 3);
    }
  }

  /** Eight openings of a kind fit, the ninth one is error 1; a word of it stands ahead of its bracket. */
  private static void depthOfOneKind() {
    due.says("Depth. It may be at most 8.");
    for (int many = 1; many <= 12; many++) {
      sum(Rooms.times(many, "(") + "1" + Rooms.times(many, ")"), many <= 8 ? -1 : 8);
      sum(Rooms.times(many, "-") + "1", many <= 8 ? -1 : 8);
      sum(Rooms.times(many, "min(") + "1" + Rooms.times(many, ",1)"), many <= 8 ? -1 : 8 * 4 + 3);
      sum(Rooms.times(many, "max(1,") + "1" + Rooms.times(many, ")"), many <= 8 ? -1 : 8 * 6 + 3);
      test(Rooms.times(many, "[") + "1<2" + Rooms.times(many, "]"), many <= 8 ? -1 : 8);
      test(Rooms.times(many, "not ") + "1<2", many <= 8 ? -1 : 8 * 4);
      test(Rooms.times(many, "not ") + "free h", many <= 8 ? -1 : 8 * 4);
      test(Rooms.times(many, "(") + "1" + Rooms.times(many, ")") + "<2", many <= 8 ? -1 : 8);
      test("1<" + Rooms.times(many, "-") + "2", many <= 8 ? -1 : 2 + 8);
    }
  }

  private static void depthOfMixedKinds() {
    due.says("Depth. It is 0 at the beginning, and 1 greater between a ( and its )");
    String[] openings = {"(", "-", "min(", "max(2,"};
    String[] closings = {")", "", ",3)", ")"};
    for (int mix = 0; mix < 64; mix++) {
      for (int many = 8; many <= 9; many++) {
        StringBuilder text = new StringBuilder("7");
        int ninth = 0;
        for (int level = many - 1; level >= 0; level--) {
          int kind = (mix * (level + 3) + mix / 4 + level) % 4;
          text.insert(0, openings[kind]).append(closings[kind]);
          if (level < 8) ninth += openings[kind].length();
          else ninth += Math.max(0, openings[kind].indexOf('('));
        }
        sum(text.toString(), many == 8 ? -1 : ninth);
      }
    }
  }

  private static void depthInTests() {
    due.says("a [ and its ] ... and behind a not for what it turns");
    for (int outer = 0; outer <= 8; outer++) {
      for (int inner = 8 - outer; inner <= 9 - outer; inner++) {
        StringBuilder before = new StringBuilder();
        StringBuilder behind = new StringBuilder();
        for (int i = 0; i < outer; i++) {
          before.append(i % 2 == 0 ? "not " : "[");
          if (i % 2 == 1) behind.append("]");
        }
        String nested = Rooms.times(inner, "(") + "1" + Rooms.times(inner, ")");
        int ninth = before.length() + 8 - outer;
        test(before + nested + " < 2" + behind, inner + outer == 8 ? -1 : ninth);
        test(before + "2 > " + nested + behind, inner + outer == 8 ? -1 : ninth + 4);
        test(before + "2 > " + Rooms.times(inner, "-") + "1" + behind, inner + outer == 8 ? -1 : ninth + 4);
      }
    }
  }

  private static void depthBehindTheEnd() {
    due.says("1 greater between a ( and its ), a [ and its ]");
    sum("((((((((1)))))))) + ((((((((2))))))))", -1);
    sum("(((((((" + "(1) + (2) - (3) * (4)" + ")))))))", -1);
    sum("(((((((" + "(1) + ((2))" + ")))))))", 7 + 7);
    sum("min(((((((1)))))),((((((2)))))))", -1);
    sum("min((((((((1))))))),(((((((2))))))))", -1);
    sum("min((((((((1))))))),((((((((2)))))))))", 20 + 7);
    sum("(((((((min(1,2)+max(3,4))))))))", -1);
    sum("(((((((min(1,2)+max(3,(4)))))))))", 22);
    test("[[[[[[[[1<2]]]]]]]] or [[[[[[[[1<2]]]]]]]]", -1);
    test("[[[[[[[[1<2] and [free h] or [1<2]]]]]]]]", -1);
    test("[[[[[[[[1<2] and [[free h]]]]]]]]]", 18);
    test("[[[[[[[[1<2]]]]]]]] and (1) < 2", -1);
  }

  private static void depthOfWhatIsTurned() {
    due.says("behind a - in front (of a value) for what it turns, and behind a not for what it turns");
    sum("(((((((-1)))))))", -1);
    sum("(((((((-1 + -2 * -3)))))))", -1);
    sum("(((((((-1 + (2))))))))", -1);
    sum("(((((((--1)))))))", 8);
    sum("(((((((-(1))))))))", 8);
    sum("(((((((-min(1,2))))))))", 11);
    sum("((((((((-1))))))))", 8);
    test("not not not not not not not not 1 < 2 and not not not not not not not not 1 < 2", -1);
    test("[[[[[[[not 1 < 2 or not free h and [1 < 2]]]]]]]]", -1);
    test("[[[[[[[not not 1 < 2]]]]]]]", 11);
    test("[[[[[[[not [1 < 2]]]]]]]]", 11);
    test("[[[[[[[not (1) < 2]]]]]]]", 11);
    test("[[[[[[[not -1 < 2]]]]]]]", 11);
    test("[[[[[[[not 1 < -2]]]]]]]", 15);
    test("[[[[[[[not 1 < 2 and -1 < 2]]]]]]]", -1);
  }

  private static void depthOfDifferences() {
    due.says("behind a - in front (of a value)");
    sum("1-2-3-4-5-6-7-8-9-10-11-12", -1);
    sum("((((((((1-2-3-4-5-6-7-8-9-10-11-12))))))))", -1);
    sum("((((((((1--2))))))))", 10);
    sum("(((((((1--2)))))))", -1);
    sum("(((((((1---2)))))))", 10);
  }

  private static void depthAtEachBeginning() {
    due.says("Depth. It is 0 at the beginning");
    String eight = "((((((((1))))))))";
    String step = "darn " + eight + " by " + eight + " at " + eight + " on " + eight + " with c";
    String text = Rooms.THINGS + "ticket t for j when [[[[[[[[free h]]]]]]]] and " + eight + " < --------2 " + step + " then " + step + ";"
        + "ticket u for j when not not not not not not not not 1 < 2 " + step + ";";
    fits(text);
    for (int at = text.indexOf(eight); at >= 0; at = text.indexOf(eight, at + 1)) {
      String deeper = text.substring(0, at) + "(" + eight + ")" + text.substring(at + eight.length());
      error(deeper, 1, at + 8);
    }
  }

  /** A bundle of so many tokens, from 38 on: the sum of a step is as long as it has to be. */
  private static String tokens(int many) {
    String before = Rooms.THINGS + "ticket t for j darn ";
    String sum = many % 2 == 0 ? "1" : "-1";
    String text = before + sum + Rooms.times((many - 37 - sum.length()) / 2, "+1") + " by 1 at 0 on 0 with c;";
    due.is("the tokens of the test's own bundle", Rooms.starts(text).length - 1, many);
    return text;
  }

  private static void fourHundredTokens() {
    due.says("the token that would be the 401st (the end of the tape not counted)");
    fits(tokens(398));
    fits(tokens(399));
    fits(tokens(400));
    fits(tokens(400) + " \n");
    for (int many = 401; many <= 404; many++) {
      String text = tokens(many);
      error(text, 1, Rooms.starts(text)[400]);
    }
  }

  private static void theTokenBehindThem() {
    due.says("the token that would be the 401st (the end of the tape not counted)");
    String full = tokens(400);
    for (String more : new String[] {"hand", "hand g needle 1 pace 1;", ";", "x", "1", "!", "\0", "hhhhhhhhhhh", "1234567", "<="}) {
      error(full + more, 1, full.length());
      error(full + " \n " + more, 1, full.length() + 3);
    }
    error(tokens(399) + "x", 1, tokens(399).length());
    error(tokens(399) + "hand", 1, tokens(399).length() + 4);
    error(tokens(399) + "hand ", 1, tokens(399).length() + 5);
    error(tokens(399) + "hand g", 1, tokens(399).length() + 5);
    error(tokens(398) + "hand g", 1, tokens(398).length() + 6);
  }

  private static void fewerThanFourHundred() {
    due.says("the token that would be the 401st (the end of the tape not counted)");
    String ones = Rooms.times(95, "1+");
    String before = Rooms.THINGS + "ticket t for j darn " + ones;
    error(before, 1, before.length());
    String unended = tokens(400).replace(";ticket", " ticket");
    error(unended, 1, unended.indexOf("ticket"));
    String cut = tokens(401).substring(0, Rooms.starts(tokens(401))[400]);
    error(cut, 1, cut.length());
  }

  private static void errorOneAtItsFirstByte() {
    due.says("The position is that of its first byte.");
    String hand = Rooms.HAND;
    for (String wrong : new String[] {"!", "abcdefghijk", "1234567", "<=", ">=", "then", "h", "12", "\u00ff"}) {
      error(hand + wrong, 1, hand.length());
      error(hand + "\n " + wrong + " " + hand, 1, hand.length() + 2);
      error("hand h needle " + wrong.replace("12", "x") + " pace 1;", 1, 14);
    }
    sum("((((((((  (1)))))))))", 10);
    sum("--------  -1", 10);
    test("[[[[[[[[\n[1<2]]]]]]]]]", 9);
    test("[[[[[[[[\n\nnot 1<2]]]]]]]]", 10);
  }

  private static void firstOfSeveral() {
    due.says("Error 1: the first token with which the tokens so far are not the beginning of a bundle.");
    error("hand h needle pace ! 1;", 1, 14);
    error("! abcdefghijk", 1, 0);
    error("abcdefghijk !", 1, 0);
    sum("1 1 (((((((((1", 2);
    String text = tokens(404).replace("hand h needle", "hand h pace");
    error(text, 1, text.indexOf("pace"));
    String deep = tokens(404).replace("darn 1+1+1+1+1+1+1", "darn ---------1+1+1");
    error(deep, 1, deep.indexOf("---------") + 8);
  }
}
