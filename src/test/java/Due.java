import java.nio.charset.StandardCharsets;
import java.util.Arrays;

/** Counts the calls whose answer is not the one that is due. */
final class Due {
  interface Call {
    Object run();
  }

  private int calls = 0;
  private int wrong = 0;
  private int sentences = 0;
  private String sentence = "";

  /** The sentence of the document that the calls from here on look at: it is told with what is wrong. */
  void says(String words) {
    sentence = words;
    sentences++;
  }

  void is(String call, long got, long want) {
    calls++;
    if (got != want) say(call + " answered " + got + ", due is " + want);
  }

  void holds(String what, boolean isSo) {
    calls++;
    if (!isSo) say(what + " does not hold");
  }

  void isD(String call, double got, double want) {
    calls++;
    if (got != want) say(call + " answered " + got + ", due is " + want);
  }

  /** The call has to throw just this, by a throw statement of DarnRoom, and to change nothing. */
  void refuses(DarnRoom room, String name, Class<? extends RuntimeException> want, Call call) {
    calls++;
    long digest = room.digest();
    int errorAt = room.errorAt();
    try {
      say(name + " answered " + call.run() + ", due is " + want.getSimpleName());
    } catch (RuntimeException e) {
      if (e.getClass() != want) say(name + " threw " + e + ", due is " + want.getSimpleName());
      if (!thrownByDarnRoom(e)) say(name + ": the machine or the library threw " + e);
    }
    if (room.digest() != digest || room.errorAt() != errorAt) say(name + " changed something, though it is refused");
  }

  static boolean thrownByDarnRoom(RuntimeException e) {
    StackTraceElement[] trace = e.getStackTrace();
    return trace.length > 0 && trace[0].getClassName().startsWith("DarnRoom");
  }

  void say(String what) {
    wrong++;
    System.out.println(what + (sentence.isEmpty() ? "" : "; the document says: " + sentence));
  }

  void end(String test) {
    String of = sentences == 0 ? "" : " for " + sentences + " sentences";
    System.out.println(test + ": " + calls + " calls looked at" + of + ", " + wrong + " wrong");
    if (wrong != 0) System.exit(1);
  }

  /** Feeds a text, padded with blanks to whole feeds, which are trimmed off again. */
  static void feed(DarnRoom room, String text) {
    byte[] bytes = text.getBytes(StandardCharsets.ISO_8859_1);
    byte[] padded = Arrays.copyOf(bytes, (bytes.length + 19) / 20 * 20);
    Arrays.fill(padded, bytes.length, padded.length, (byte) 32);
    int before = room.count(11);
    for (int i = 0; i < padded.length; i += 20) {
      room.feed(four(padded, i), four(padded, i + 4), four(padded, i + 8), four(padded, i + 12), four(padded, i + 16));
    }
    room.trim(before + bytes.length);
  }

  private static int four(byte[] bytes, int at) {
    return (bytes[at] & 255) << 24 | (bytes[at + 1] & 255) << 16 | (bytes[at + 2] & 255) << 8 | bytes[at + 3] & 255;
  }

  static int teach(DarnRoom room, String text) {
    feed(room, text);
    return room.teach();
  }

  /** A new room that was taught a text without errors. */
  static DarnRoom taught(String text) {
    DarnRoom room = new DarnRoom();
    int error = teach(room, text);
    if (error != 0) throw new IllegalStateException("the test's own bundle has error " + error + " at " + room.errorAt() + ": " + text);
    return room;
  }

  static String paper(DarnRoom room) {
    StringBuilder text = new StringBuilder();
    int many = room.count(10);
    for (int i = 0; i < many; i++) text.append((char) room.byteAt(i));
    return text.toString();
  }
}
