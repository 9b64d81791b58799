import java.io.IOException;
import java.nio.file.Files;
import java.nio.file.Path;
import java.util.ArrayList;
import java.util.List;
import java.util.regex.Matcher;
import java.util.regex.Pattern;

/** Makes the calls that README.md shows, and looks whether they are the calls and answers that it shows. */
public final class ReadmeTest {
  private static final Path PAGE = Path.of("README.md");
  private static final Path SOURCE = Path.of("src/test/java/ReadmeTest.java");
  private static final Pattern SHOWN = Pattern.compile("(.*);\\s*// (throws )?(\"[^\"]*\"|[^ :]+)(: .*)?");
  private static final Due due = new Due();

  public static void main(String[] args) throws IOException {
    DarnRoom room = new DarnRoom();
    tape(room);
    taught(room);
    errors(room);
    bundle(room);
    hours(room);
    asked(room);
    ahead(room);
    changed(room);
    slips(room);
    refused(room);
    samePage();
    due.end("ReadmeTest");
  }

  private static void tape(DarnRoom room) {
    shows(20, room.feed(0x68616e64, 0x20616e6e, 0x206e6565, 0x646c6520, 0x31207061));
    shows(40, room.feed(0x63652033, 0x3b202020, 0x20202020, 0x20202020, 0x20202020));
    shows(25, room.trim(25));
  }

  static void put(DarnRoom room, String text) {
    int before = room.count(11);
    StringBuilder padded = new StringBuilder(text);
    while (padded.length() % 20 != 0) padded.append(' ');
    for (int i = 0; i < padded.length(); i += 20) {
      room.feed(four(padded, i), four(padded, i + 4), four(padded, i + 8), four(padded, i + 12), four(padded, i + 16));
    }
    room.trim(before + text.length());
  }

  static int four(CharSequence text, int at) {
    return text.charAt(at) << 24 | text.charAt(at + 1) << 16 | text.charAt(at + 2) << 8 | text.charAt(at + 3);
  }

  private static void taught(DarnRoom room) {
    shows(0, room.teach());
    shows(-1, room.errorAt());
    shows(1, room.count(2));
    shows(0, room.count(11));
  }

  private static void errors(DarnRoom room) {
    put(room, "hand ann needle 5 pace 3;");
    shows(5, room.teach());
    shows(16, room.errorAt());
    shows(1, room.hand(0, 0));
  }

  private static void bundle(DarnRoom room) {
    put(room, "card grey ply 2 yards 30 price 3;\n");
    put(room, "hand ann needle 1 pace 3; hand bob needle 2 pace 2;\n");
    put(room, "jersey old cloth 3 elbows 2; jersey new cloth 5 elbows 0;\n");
    put(room, "ticket elbow for old darn 2 by 2 at 1 on 2 with grey then darn 1 by 1 at 0 on 0 with grey;\n");
    put(room, "ticket hem for new when hour > 0 darn 3 by 1 at 0 on 5 with grey;\n");
    put(room, "ticket late for old when holes old > 0 darn 8 by 6 at 0 on 0 with grey;\n");
    shows(0, room.teach());
    shows(-1, room.errorAt());
  }

  private static void hours(DarnRoom room) {
    shows(3, room.pass(1));
    shows(1, room.hand(0, 4));
    shows(0, room.ticket(1, 0));
    shows(0, room.jersey(0, 2));
    shows(4, room.pass(1));
    shows(2, room.ticket(0, 0));
    shows(1, room.ticket(1, 0));
    shows(5, room.cell(0, 1, 2));
    shows(23, room.card(0, 1));
    shows(2, room.count(0));
  }

  private static void asked(DarnRoom room) {
    shows(1, room.count(6));
    shows(21, room.count(9));
    shows(2, room.card(0, 0));
    shows(1, room.hand(1, 2));
    shows(0, room.hand(1, 3));
    shows(-1, room.hand(0, 2));
    shows(5, room.hand(0, 5));
    shows(3, room.jersey(0, 1));
    shows(154, room.jersey(0, 3));
    shows(15, room.ticket(0, 3));
    shows(1, room.ticket(0, 4));
    shows(0, room.ticket(2, 5));
    shows(0, room.ticket(2, 6));
  }

  private static void ahead(DarnRoom room) {
    shows(1, room.done(1));
    shows(0, room.done(0));
    shows(10, room.lasts(0));
    shows(4, room.foresee(10, 1));
    shows(-1, room.done(2));
    shows(323, room.wind(0, 300));
    shows(26, room.done(2));
    shows(3, room.foresee(26, 2));
    shows(0, room.advise(25));
    shows(0, room.tear(0));
    shows(-1, room.patch(0));
  }

  private static void changed(DarnRoom room) {
    shows(4, room.wear(0, 1));
    shows(4, room.tear(0));
    shows(5222, room.patch(0));
    shows(0, room.hurry(2));
    shows(4, room.pass(1));
    shows(1, room.ticket(2, 0));
  }

  static String paper(DarnRoom room) {
    StringBuilder text = new StringBuilder();
    for (int i = 0; i < room.count(10); i++) text.append((char) room.byteAt(i));
    return text.toString();
  }

  private static void slips(DarnRoom room) {
    shows(101, room.byteAt(0));
    shows("elbow 15\nhem 9\n", paper(room));
    shows(12.0, room.mean());
    shows(15, room.clear());
    shows(0, room.count(10));
  }

  private static void refused(DarnRoom room) {
    refuses(room, IllegalArgumentException.class, () -> room.trim(1));
    refuses(room, IndexOutOfBoundsException.class, () -> room.card(1, 0));
    refuses(room, IndexOutOfBoundsException.class, () -> room.count(12));
    refuses(room, IllegalStateException.class, () -> room.hurry(0));
    refuses(room, IllegalStateException.class, () -> room.wear(0, 1));
    refuses(room, IllegalArgumentException.class, () -> room.wear(0, 21));
    refuses(room, IllegalArgumentException.class, () -> room.pass(0));
  }

  private static String caller() {
    return "the call in line " + new Throwable().getStackTrace()[2].getLineNumber() + " of ReadmeTest";
  }

  private static void shows(long want, long got) {
    due.is(caller(), got, want);
  }

  private static void shows(double want, double got) {
    due.isD(caller(), got, want);
  }

  private static void shows(String want, String got) {
    due.holds(caller() + " answered " + got + ": that this is " + want, got.equals(want));
  }

  private static void refuses(DarnRoom room, Class<? extends RuntimeException> want, Due.Call call) {
    due.refuses(room, caller(), want, call);
  }

  /** Looks for each line that the page shows as Java in this test, in the same order, and for none that it shows not. */
  private static void samePage() throws IOException {
    if (!Files.exists(PAGE) || !Files.exists(SOURCE)) {
      due.say("ReadmeTest has to be run from the project's own directory, where README.md is");
      return;
    }
    List<String> here = new ArrayList<>();
    for (String line : Files.readAllLines(SOURCE)) here.add(line.trim());
    int at = 0;
    int answers = 0;
    for (String line : javaOf(Files.readAllLines(PAGE))) {
      String wanted = asTested(line);
      int found = here.subList(at, here.size()).indexOf(wanted);
      due.holds("that ReadmeTest has, in the same order, the README's " + wanted, found >= 0);
      at += Math.max(0, found + 1);
      if (isLook(wanted)) answers++;
    }
    due.is("the answers that the README shows", answers, here.stream().filter(ReadmeTest::isLook).count());
  }

  private static boolean isLook(String line) {
    return line.startsWith("shows(") || line.startsWith("refuses(");
  }

  private static List<String> javaOf(List<String> page) {
    List<String> lines = new ArrayList<>();
    boolean inside = false;
    for (String line : page) {
      if (line.startsWith("```")) inside = line.equals("```java");
      else if (inside && !line.isBlank()) lines.add(line.trim());
    }
    return lines;
  }

  /** A call with its answer, as this test has it; any other line as it is. */
  private static String asTested(String line) {
    Matcher shown = SHOWN.matcher(line);
    if (!shown.matches()) return line;
    String call = shown.group(1);
    String answer = shown.group(3);
    return shown.group(2) == null ? "shows(" + answer + ", " + call + ");" : "refuses(room, " + answer + ".class, () -> " + call + ");";
  }
}
