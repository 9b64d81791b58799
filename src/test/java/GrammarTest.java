import java.util.ArrayList;
import java.util.HashMap;
import java.util.LinkedHashMap;
import java.util.List;
import java.util.Map;
import java.util.regex.Matcher;
import java.util.regex.Pattern;

/** Error 1, against a recognizer that reads the grammar as the document has it, and knows nothing of DarnRoom. */
public final class GrammarTest {
  private static final String[] GRAMMAR = {
    "bundle = { line \";\" }",
    "line = \"card\" name \"ply\" number \"yards\" number \"price\" number | \"hand\" name \"needle\" number \"pace\" number | \"jersey\" name \"cloth\" number \"elbows\" number | \"ticket\" name \"for\" name [ \"when\" test ] step { \"then\" step }",
    "step = \"darn\" sum \"by\" sum \"at\" sum \"on\" sum \"with\" name",
    "test = both { \"or\" both }",
    "both = single { \"and\" single }",
    "single = \"not\" single | \"[\" test \"]\" | \"free\" name | sum ( \"<\" | \">\" | \"=\" | \"<=\" | \">=\" ) sum",
    "sum = product { ( \"+\" | \"-\" ) product }",
    "product = value { ( \"*\" | \"/\" ) value }",
    "value = number | \"hour\" | \"waits\" | \"wool\" name | ( \"holes\" | \"thin\" ) name | \"stitches\" name | \"-\" value | \"(\" sum \")\" | ( \"min\" | \"max\" ) \"(\" sum \",\" sum \")\"",
  };
  private static final String[] BUNDLES = {
    "card c ply 1 yards 9 price 1 ; hand h needle 1 pace 1 ; jersey j cloth 2 elbows 0 ;",
    "ticket t for j darn 1 + 2 by hour at ( 3 ) on wool c with c then darn 1 by 1 at 0 on 0 with c ;",
    "ticket t for j when free h and not 1 < 2 or [ 1 = waits ] darn 1 by 1 at 0 on 0 with c ; hand h needle 1 pace 1 ;",
    "ticket t for j when - 1 <= holes j or thin j >= 2 * 3 / 4 and 1 > stitches s darn min ( 1 , 2 ) by 1 at max ( 1 , 2 ) on 0 with c ;",
  };
  private static final String[] WORDS = ("card ply yards price hand needle pace jersey cloth elbows ticket for when darn by at on with then hour waits wool"
      + " holes thin stitches free not and or min max ( ) [ ] ; , + - * / < > = <= >= x 7").split(" ");
  private static final Due due = new Due();
  private static final Map<String, List<List<String>>> RULES = new LinkedHashMap<>();
  private static List<String> line;
  private static int at;
  private static long seed = 20261119;

  public static void main(String[] args) {
    for (String rule : GRAMMAR) readRule(rule);
    due.says("Error 1: the first token with which the tokens so far are not the beginning of a bundle.");
    for (String bundle : BUNDLES) {
      List<String> tokens = List.of(bundle.split(" "));
      compare(tokens);
      for (int i = 0; i <= tokens.size(); i++) edited(tokens, i);
    }
    for (int i = 0; i < 4000; i++) compare(scrambled());
    due.end("GrammarTest");
  }

  /** Every token left out, and every word put in or put in the place of another. */
  private static void edited(List<String> tokens, int place) {
    for (String word : WORDS) {
      List<String> more = new ArrayList<>(tokens);
      more.add(place, word);
      compare(more);
      if (place == tokens.size()) continue;
      List<String> other = new ArrayList<>(tokens);
      other.set(place, word);
      compare(other);
    }
    if (place == tokens.size()) return;
    List<String> fewer = new ArrayList<>(tokens);
    fewer.remove(place);
    compare(fewer);
  }

  private static int next(int below) {
    seed = seed * 6364136223846793005L + 1442695040888963407L;
    return (int) ((seed >>> 33) % below);
  }

  private static List<String> scrambled() {
    List<String> tokens = new ArrayList<>(List.of(BUNDLES[next(BUNDLES.length)].split(" ")));
    for (int i = next(4) + 1; i > 0; i--) {
      int place = next(tokens.size());
      switch (next(4)) {
        case 0: tokens.remove(place); break;
        case 1: tokens.add(place, WORDS[next(WORDS.length)]); break;
        case 2: tokens.set(place, WORDS[next(WORDS.length)]); break;
        default: tokens.addAll(place, List.copyOf(tokens.subList(place, Math.min(tokens.size(), place + 1 + next(6))))); break;
      }
    }
    return tokens;
  }

  private static void compare(List<String> tokens) {
    String text = String.join(" ", tokens);
    DarnRoom room = new DarnRoom();
    int error = Due.teach(room, text);
    int fitting = recognize(tokens);
    if (fitting < 0) {
      due.holds("no error 1 of " + text, error != 1);
      return;
    }
    int place = fitting == tokens.size() ? text.length() : String.join(" ", tokens.subList(0, fitting)).length() + (fitting > 0 ? 1 : 0);
    due.is("teach() of " + text, error, 1);
    due.is("errorAt() behind " + text, room.errorAt(), place);
  }

  private static void readRule(String rule) {
    line = new ArrayList<>();
    Matcher sign = Pattern.compile("\"[^\"]+\"|[a-z]+|[^ ]").matcher(rule);
    while (sign.find()) line.add(sign.group());
    at = 2;
    RULES.put(line.get(0), alternatives());
  }

  private static List<List<String>> alternatives() {
    List<List<String>> all = new ArrayList<>();
    all.add(sequence());
    while (at < line.size() && line.get(at).equals("|")) {
      at++;
      all.add(sequence());
    }
    return all;
  }

  private static List<String> sequence() {
    List<String> parts = new ArrayList<>();
    while (at < line.size() && !"|)]}".contains(line.get(at))) {
      String part = line.get(at++);
      if ("([{".contains(part)) {
        List<List<String>> inner = alternatives();
        at++;
        String name = "part" + RULES.size() + "of" + line.get(0);
        List<List<String>> rule = new ArrayList<>(inner);
        if (part.equals("{")) {
          for (List<String> alternative : rule) alternative.add(name);
        }
        if (!part.equals("(")) rule.add(new ArrayList<>());
        RULES.put(name, rule);
        parts.add(name);
      } else {
        parts.add(part);
      }
    }
    return parts;
  }

  /** An alternative of a rule that is read up to a part of it, and began ahead of a token. */
  private record Item(String rule, List<String> parts, int dot, int from) {}

  /** How many tokens are the beginning of a bundle, if they are none; -1 if they are one. */
  private static int recognize(List<String> tokens) {
    List<Map<Item, Boolean>> sets = new ArrayList<>();
    Map<Item, Boolean> first = new LinkedHashMap<>();
    for (List<String> parts : RULES.get("bundle")) first.put(new Item("bundle", parts, 0, 0), true);
    sets.add(first);
    for (int i = 0; i <= tokens.size(); i++) {
      Map<Item, Boolean> after = new HashMap<>();
      boolean whole = close(sets, i, i < tokens.size() ? tokens.get(i) : null, after);
      if (i == tokens.size()) return whole ? -1 : i;
      if (after.isEmpty()) return i;
      sets.add(after);
    }
    return -1;
  }

  /** Goes on with all items of a set until there are no more; tells whether a bundle can end there. */
  private static boolean close(List<Map<Item, Boolean>> sets, int i, String token, Map<Item, Boolean> after) {
    List<Item> items = new ArrayList<>(sets.get(i).keySet());
    boolean whole = false;
    boolean more = true;
    // Over and over, as parts of no tokens end where they begin.
    while (more) {
      int before = items.size();
      for (int k = 0; k < items.size(); k++) {
        Item item = items.get(k);
        List<Item> found = new ArrayList<>();
        if (item.dot == item.parts.size()) {
          whole |= item.rule.equals("bundle");
          List<Item> origin = item.from == i ? List.copyOf(items) : new ArrayList<>(sets.get(item.from).keySet());
          for (Item waiting : origin) {
            if (waiting.dot < waiting.parts.size() && waiting.parts.get(waiting.dot).equals(item.rule)) found.add(behind(waiting));
          }
        } else if (RULES.containsKey(item.parts.get(item.dot))) {
          String rule = item.parts.get(item.dot);
          for (List<String> parts : RULES.get(rule)) found.add(new Item(rule, parts, 0, i));
        } else if (token != null && fits(item.parts.get(item.dot), token)) {
          after.put(behind(item), true);
        }
        for (Item other : found) {
          if (sets.get(i).put(other, true) == null) items.add(other);
        }
      }
      more = items.size() > before;
    }
    return whole;
  }

  private static Item behind(Item item) {
    return new Item(item.rule, item.parts, item.dot + 1, item.from);
  }

  private static boolean fits(String part, String token) {
    if (part.equals("number")) return token.matches("[0-9]+");
    if (part.equals("name")) return token.matches("[a-z][a-z0-9]*") && !(" " + String.join(" ", WORDS).replace(" x", "") + " ").contains(" " + token + " ");
    return part.equals("\"" + token + "\"");
  }
}
