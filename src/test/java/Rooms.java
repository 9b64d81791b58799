/** Bundles and rooms that several tests use. */
final class Rooms {
  static final String CARD = "card c ply 1 yards 9 price 1;";
  static final String HAND = "hand h needle 1 pace 1;";
  static final String JERSEY = "jersey j cloth 2 elbows 0;";
  static final String THINGS = CARD + HAND + JERSEY;
  static final String STEP = "darn 1 by 1 at 0 on 0 with c";
  static final String TICKET = "ticket t for j " + STEP + ";";
  private static final int BASE = 32768;

  private Rooms() {}

  /** A sum that is this number, and wraps around nowhere. */
  static String sumOf(int number) {
    if (number >= 0 && number <= 999999) return Integer.toString(number);
    if (number > 0) return "(" + number / BASE + "*" + BASE + "+" + number % BASE + ")";
    return "((0-" + -(number / BASE) + ")*" + BASE + "-" + -(number % BASE) + ")";
  }

  /** Whether a test holds in hour 0, as the ticket t with it waits; another ticket, s, waits for ever ahead of it. */
  static boolean holds(String test) {
    DarnRoom room = Due.taught(THINGS + "ticket s for j when 1 = 2 " + STEP + ";ticket t for j when " + test + " " + STEP + ";");
    room.pass(1);
    return room.ticket(1, 0) == 2;
  }

  static String times(int many, String text) {
    return text.repeat(Math.max(0, many));
  }

  /** Where the tokens of a text begin; behind the last one stands its length. */
  static int[] starts(String text) {
    java.util.regex.Matcher token = java.util.regex.Pattern.compile("[a-z][a-z0-9]*|[0-9]+|[<>]=|[^ \n]").matcher(text);
    java.util.ArrayList<Integer> starts = new java.util.ArrayList<>();
    while (token.find()) starts.add(token.start());
    starts.add(text.length());
    return starts.stream().mapToInt(i -> i).toArray();
  }

  /** Where the token ends that begins at a place of a text. */
  static int endOf(String text, int start) {
    java.util.regex.Matcher token = java.util.regex.Pattern.compile("[a-z][a-z0-9]*|[0-9]+|[<>]=|[^ \n]").matcher(text);
    return token.find(start) ? token.end() : text.length();
  }
}
