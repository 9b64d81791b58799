import java.util.ArrayList;
import java.util.Arrays;

/** A darning workroom. ../shared/DOC.md says what it promises; ../shared/LANGUAGE.md what it is written in. */
public final class DarnRoom {
  private static final int MAX_TAPE = 2000;
  private static final int FED_BYTES = 20;
  private static final int MAX_YARDS = 999;
  private static final int MAX_WOUND = 500;
  private static final int MAX_TIMES = 20;
  private static final int MAX_HOURS = 120;
  private static final int MAX_ADVISED = 80;
  private static final int MAX_AHEAD = 200;

  private static final int LAST_OF_COUNT = 11;
  private static final int LAST_OF_CARD = 2;
  private static final int LAST_OF_HAND = 5;
  private static final int LAST_OF_JERSEY = 3;
  private static final int LAST_OF_TICKET = 7;
  private static final int LAST_OF_FORESEE = 3;

  private static final int MAX_TOKENS = 400;
  private static final int MAX_WORD = 10;
  private static final int MAX_DIGITS = 6;
  private static final int MAX_DEPTH = 8;
  private static final int MAX_STEPS = 6;
  private static final int MAX_STACK = 64;

  private static final int MAX_CARDS = 6;
  private static final int MAX_HANDS = 4;
  private static final int MAX_JERSEYS = 6;
  private static final int MAX_TICKETS = 12;
  private static final int MAX_NAMES = 28;

  private static final int MAX_PLY = 9;
  private static final int MAX_PRICE = 20;
  private static final int MAX_NEEDLE = 4;
  private static final int MAX_PACE = 9;
  private static final int MAX_CLOTH = 20;
  private static final int MAX_ELBOWS = 3;

  // A keyword's kind is its place in this row, from 0: the constants below stand in the same order.
  private static final String KEYWORDS = "card ply yards price hand needle pace jersey cloth elbows ticket for when darn by at on with then hour waits wool holes thin stitches free not and or min max ";
  private static final int KEYWORD_COUNT = 31;
  private static final int CARD = 0;
  private static final int PLY = 1;
  private static final int YARDS = 2;
  private static final int PRICE = 3;
  private static final int HAND = 4;
  private static final int NEEDLE = 5;
  private static final int PACE = 6;
  private static final int JERSEY = 7;
  private static final int CLOTH = 8;
  private static final int ELBOWS = 9;
  private static final int TICKET = 10;
  private static final int FOR = 11;
  private static final int WHEN = 12;
  private static final int DARN = 13;
  private static final int BY = 14;
  private static final int AT = 15;
  private static final int ON = 16;
  private static final int WITH = 17;
  private static final int THEN = 18;
  private static final int HOUR = 19;
  private static final int WAITS = 20;
  private static final int WOOL = 21;
  private static final int HOLES = 22;
  private static final int THIN = 23;
  private static final int STITCHES = 24;
  private static final int FREE = 25;
  private static final int NOT = 26;
  private static final int AND = 27;
  private static final int OR = 28;
  private static final int MIN = 29;
  private static final int MAX = 30;

  // The kind of a symbol of one byte is this byte; all other kinds stand above these.
  private static final int AT_MOST = 200;
  private static final int AT_LEAST = 201;
  private static final int NUMBER = 202;
  private static final int NAME = 203;
  private static final int END = 204;
  private static final int BAD = 205;
  private static final int NEGATE = 206;

  private static final int WIDTH = 8;
  private static final int HEIGHT = 6;
  private static final int CELLS = 48;
  private static final int MAX_THICK = 30;
  private static final int WEAR_EVERY = 12;

  private static final int WAITING = 0;
  private static final int AT_HAND = 1;
  private static final int FINISHED = 2;

  private static final int MAX_PAPER = 400;
  private static final int MAX_SLIP = 24;
  private static final int MAX_INT_DIGITS = 10;

  // A word is kept as one number: its signs are digits from 1 on, so that no two words are the same number.
  private static final int WORD_BASE = 37;
  private static final int FIRST_LETTER = 1;
  private static final int FIRST_DIGIT = 27;

  private final byte[] tape = new byte[MAX_TAPE];
  private final Parser parser = new Parser();
  private final Tear tears = new Tear();
  private final Paper paper = new Paper();
  private int tapeLength;
  private int errorPlace;
  private Shop shop;

  public DarnRoom() {
    tapeLength = 0;
    errorPlace = -1;
    shop = new Shop(0);
  }

  // ---- the language

  public int feed(int a, int b, int c, int d, int e) throws IllegalStateException {
    if (tapeLength + FED_BYTES > MAX_TAPE) throw new IllegalStateException();
    append(a);
    append(b);
    append(c);
    append(d);
    append(e);
    return tapeLength;
  }

  private void append(int number) {
    for (int shift = 24; shift >= 0; shift -= 8) {
      if (tapeLength >= 0 && tapeLength < tape.length) tape[tapeLength++] = (byte) (number >> shift);
    }
  }

  public int trim(int n) throws IllegalArgumentException {
    if (n < 0 || n > tapeLength) throw new IllegalArgumentException();
    tapeLength = n;
    return n;
  }

  public int teach() {
    int error = parser.read(tape, tapeLength, shop.hour);
    tapeLength = 0;
    errorPlace = parser.errorPlace;
    if (error == 0) shop = parser.shop;
    return error;
  }

  public int errorAt() {
    return errorPlace;
  }

  public int count(int what) throws IndexOutOfBoundsException {
    if (what < 0 || what > LAST_OF_COUNT) throw new IndexOutOfBoundsException();
    return countTells(what);
  }

  private int countTells(int what) {
    switch (what) {
      case 0: return shop.hour;
      case 1: return shop.cards.size();
      case 2: return shop.hands.size();
      case 3: return shop.jerseys.size();
      case 4: return shop.tickets.size();
      case 5: return shop.ticketsIn(WAITING);
      case 6: return shop.ticketsIn(FINISHED);
      case 7: return shop.allStitches();
      case 8: return shop.allHoles();
      case 9: return shop.allPrices();
      case 10: return paper.length;
      default: return tapeLength;
    }
  }

  // ---- cards, hands, jerseys, tickets

  public int card(int card, int what) throws IndexOutOfBoundsException {
    Card asked = shop.cardAt(card);
    if (asked == null || what < 0 || what > LAST_OF_CARD) throw new IndexOutOfBoundsException();
    return cardTells(asked, what);
  }

  private static int cardTells(Card card, int what) {
    switch (what) {
      case 0: return card.ply;
      case 1: return card.yards;
      default: return card.price;
    }
  }

  public int wind(int card, int yards) throws IndexOutOfBoundsException, IllegalArgumentException {
    Card wound = shop.cardAt(card);
    if (wound == null) throw new IndexOutOfBoundsException();
    if (yards < 1 || yards > MAX_WOUND) throw new IllegalArgumentException();
    wound.yards = Math.min(MAX_YARDS, wound.yards + yards);
    return wound.yards;
  }

  public int hand(int hand, int what) throws IndexOutOfBoundsException {
    Hand asked = shop.handAt(hand);
    if (asked == null || what < 0 || what > LAST_OF_HAND) throw new IndexOutOfBoundsException();
    return handTells(asked, what);
  }

  private static int handTells(Hand hand, int what) {
    switch (what) {
      case 0: return hand.needle;
      case 1: return hand.pace;
      case 2: return hand.ticket == null ? -1 : hand.ticket.number;
      case 3: return hand.step;
      case 4: return hand.cellCount - hand.woven;
      default: return hand.stitches;
    }
  }

  public int cell(int jersey, int x, int y) throws IndexOutOfBoundsException {
    Jersey asked = shop.jerseyAt(jersey);
    if (asked == null || x < 0 || x >= WIDTH || y < 0 || y >= HEIGHT) throw new IndexOutOfBoundsException();
    return asked.thick[WIDTH * y + x];
  }

  public int jersey(int jersey, int what) throws IndexOutOfBoundsException {
    Jersey asked = shop.jerseyAt(jersey);
    if (asked == null || what < 0 || what > LAST_OF_JERSEY) throw new IndexOutOfBoundsException();
    return jerseyTells(asked, what);
  }

  private int jerseyTells(Jersey jersey, int what) {
    switch (what) {
      case 0: return jersey.holes();
      case 1: return jersey.thinnest();
      case 2: return shop.handOver(jersey);
      default: return jersey.allThick();
    }
  }

  public int ticket(int ticket, int what) throws IndexOutOfBoundsException {
    Ticket asked = shop.ticketAt(ticket);
    if (asked == null || what < 0 || what > LAST_OF_TICKET) throw new IndexOutOfBoundsException();
    return ticketTells(asked, what);
  }

  private int ticketTells(Ticket ticket, int what) {
    switch (what) {
      case 0: return ticket.state;
      case 1: return ticket.hand;
      case 2: return ticket.stitches;
      case 3: return ticket.price;
      case 4: return ticket.finishedIn;
      case 5: return shop.placeOf(ticket);
      case 6: return ticket.jersey.number;
      default: return ticket.steps.size();
    }
  }

  public int hurry(int ticket) throws IndexOutOfBoundsException, IllegalStateException {
    Ticket hurried = shop.ticketAt(ticket);
    if (hurried == null) throw new IndexOutOfBoundsException();
    if (hurried.state != WAITING) throw new IllegalStateException();
    int place = shop.placeOf(hurried);
    shop.putAhead(hurried);
    return place;
  }

  public int wear(int jersey, int times) throws IndexOutOfBoundsException, IllegalArgumentException, IllegalStateException {
    Jersey worn = shop.jerseyAt(jersey);
    if (worn == null) throw new IndexOutOfBoundsException();
    if (times < 1 || times > MAX_TIMES) throw new IllegalArgumentException();
    if (shop.handOver(worn) >= 0) throw new IllegalStateException();
    for (int i = 0; i < times; i++) worn.wearOnce();
    return worn.holes();
  }

  // ---- holes

  public int tear(int jersey) throws IndexOutOfBoundsException {
    Jersey asked = shop.jerseyAt(jersey);
    if (asked == null) throw new IndexOutOfBoundsException();
    tears.findGreatest(asked);
    return tears.size;
  }

  public int patch(int jersey) throws IndexOutOfBoundsException {
    Jersey asked = shop.jerseyAt(jersey);
    if (asked == null) throw new IndexOutOfBoundsException();
    tears.findGreatest(asked);
    return tears.cover();
  }

  // ---- hours

  public int pass(int hours) throws IllegalArgumentException {
    if (hours < 1 || hours > MAX_HOURS) throw new IllegalArgumentException();
    return shop.goBy(hours, paper);
  }

  // ---- looking ahead

  public int done(int ticket) throws IndexOutOfBoundsException {
    Ticket asked = shop.ticketAt(ticket);
    if (asked == null) throw new IndexOutOfBoundsException();
    shop.remember();
    int hours = 0;
    while (hours < MAX_AHEAD && asked.state != FINISHED) {
      shop.goBy(1, null);
      hours++;
    }
    boolean reached = asked.state == FINISHED;
    shop.recall();
    return reached ? hours : -1;
  }

  public int lasts(int jersey) throws IndexOutOfBoundsException {
    Jersey asked = shop.jerseyAt(jersey);
    if (asked == null) throw new IndexOutOfBoundsException();
    shop.remember();
    int hours = 0;
    while (hours < MAX_AHEAD && asked.holes() == 0) {
      shop.goBy(1, null);
      hours++;
    }
    boolean reached = asked.holes() > 0;
    shop.recall();
    return reached ? hours : -1;
  }

  public int foresee(int hours, int what) throws IllegalArgumentException, IndexOutOfBoundsException {
    if (hours < 1 || hours > MAX_HOURS) throw new IllegalArgumentException();
    if (what < 0 || what > LAST_OF_FORESEE) throw new IndexOutOfBoundsException();
    shop.remember();
    int made = shop.goBy(hours, null);
    int answer;
    switch (what) {
      case 0: answer = made; break;
      case 1: answer = shop.allHoles(); break;
      case 2: answer = shop.ticketsIn(FINISHED); break;
      default: answer = shop.allPrices(); break;
    }
    shop.recall();
    return answer;
  }

  public int advise(int hours) throws IllegalArgumentException {
    if (hours < 1 || hours > MAX_ADVISED) throw new IllegalArgumentException();
    int most = -1;
    int best = -1;
    // -1 is no hand: how many are done with all paces as they are has to be beaten.
    for (int i = -1; i < shop.hands.size(); i++) {
      Hand hand = shop.handAt(i);
      if (hand != null) hand.pace++;
      shop.remember();
      shop.goBy(hours, null);
      int finished = shop.ticketsIn(FINISHED);
      shop.recall();
      if (hand != null) hand.pace--;
      if (finished > most) {
        most = finished;
        best = i;
      }
    }
    return best;
  }

  // ---- the paper

  public int byteAt(int index) throws IndexOutOfBoundsException {
    if (index < 0 || index >= paper.length || index >= paper.bytes.length) throw new IndexOutOfBoundsException();
    return paper.bytes[index];
  }

  public int clear() {
    int had = paper.length;
    paper.length = 0;
    return had;
  }

  public double mean() {
    int finished = shop.ticketsIn(FINISHED);
    return finished == 0 ? 0 : (double) shop.pricesOfFinished() / finished;
  }

  public long digest() {
    long d = 751;
    for (int what = 0; what <= LAST_OF_COUNT; what++) d = d * 31 + countTells(what);
    for (int i = 0; i < shop.cards.size(); i++) {
      for (int what = 0; what <= LAST_OF_CARD; what++) d = d * 31 + cardTells(shop.cards.get(i), what);
    }
    for (int i = 0; i < shop.hands.size(); i++) {
      for (int what = 0; what <= LAST_OF_HAND; what++) d = d * 31 + handTells(shop.hands.get(i), what);
    }
    for (int i = 0; i < shop.jerseys.size(); i++) d = digestOf(d, shop.jerseys.get(i));
    for (int i = 0; i < shop.tickets.size(); i++) {
      for (int what = 0; what <= LAST_OF_TICKET; what++) d = d * 31 + ticketTells(shop.tickets.get(i), what);
    }
    for (int i = 0; i < paper.length && i < paper.bytes.length; i++) d = d * 31 + paper.bytes[i];
    return d;
  }

  private long digestOf(long before, Jersey jersey) {
    long d = before;
    for (int what = 0; what <= LAST_OF_JERSEY; what++) d = d * 31 + jerseyTells(jersey, what);
    tears.findGreatest(jersey);
    d = d * 31 + tears.size;
    for (int thick : jersey.thick) d = d * 31 + thick;
    return d;
  }

  private static boolean isLetter(int sign) {
    return sign >= 'a' && sign <= 'z';
  }

  private static boolean isDigit(int sign) {
    return sign >= '0' && sign <= '9';
  }

  /** The tape, cut into tokens: the last one is END or, where no token can be read, BAD. */
  private static final class Tokens {
    final int[] kinds = new int[MAX_TOKENS + 1];
    final int[] starts = new int[MAX_TOKENS + 1];
    final long[] values = new long[MAX_TOKENS + 1];
    private final long[] keywords = new long[KEYWORD_COUNT];
    private byte[] tape;
    private int length;
    private int size;

    Tokens() {
      int known = 0;
      long word = 0;
      for (int i = 0; i < KEYWORDS.length(); i++) {
        char sign = KEYWORDS.charAt(i);
        if (sign != ' ') {
          word = longer(word, sign);
        } else if (known < keywords.length) {
          keywords[known++] = word;
          word = 0;
        }
      }
    }

    private static long longer(long word, int sign) {
      return word * WORD_BASE + (isLetter(sign) ? sign - 'a' + FIRST_LETTER : sign - '0' + FIRST_DIGIT);
    }

    void cut(byte[] bytes, int many) {
      tape = bytes;
      length = many;
      size = 0;
      int at = 0;
      int kind = NUMBER;
      for (int i = 0; i <= MAX_TOKENS && kind != END && kind != BAD; i++) {
        at = behindBlanks(at);
        int end = readToken(at, i == MAX_TOKENS);
        kind = kinds[i];
        at = end;
      }
    }

    /** The byte at a place of the tape, 0 (with which no token begins) outside of it. */
    private int byteOf(int at) {
      return tape != null && at >= 0 && at < length && at < tape.length ? tape[at] : 0;
    }

    private int behindBlanks(int from) {
      int at = from;
      while (at < length && (byteOf(at) == ' ' || byteOf(at) == '\n')) at++;
      return at;
    }

    private int readToken(int at, boolean tooMany) {
      int sign = byteOf(at);
      if (at >= length) return add(END, at, 0, at);
      if (tooMany) return add(BAD, at, 0, at);
      if (isLetter(sign)) return readWord(at);
      if (isDigit(sign)) return readNumber(at);
      if (byteOf(at + 1) == '=' && sign == '<') return add(AT_MOST, at, 0, at + 2);
      if (byteOf(at + 1) == '=' && sign == '>') return add(AT_LEAST, at, 0, at + 2);
      return add(isSymbol(sign) ? sign : BAD, at, 0, at + 1);
    }

    private int readWord(int from) {
      int at = from;
      long word = 0;
      while (at < length && (isLetter(byteOf(at)) || isDigit(byteOf(at)))) {
        word = longer(word, byteOf(at));
        at++;
      }
      return add(at - from > MAX_WORD ? BAD : kindOf(word), from, word, at);
    }

    private int kindOf(long word) {
      for (int i = 0; i < keywords.length; i++) {
        if (keywords[i] == word) return i;
      }
      return NAME;
    }

    private int readNumber(int from) {
      int at = from;
      long number = 0;
      while (at < length && isDigit(byteOf(at))) {
        number = number * 10 + byteOf(at) - '0';
        at++;
      }
      return add(at - from > MAX_DIGITS ? BAD : NUMBER, from, number, at);
    }

    private static boolean isSymbol(int sign) {
      switch (sign) {
        case '(': case ')': case '[': case ']': case ';': case ',': case '+': case '-': case '*': case '/':
        case '<': case '>': case '=':
          return true;
        default:
          return false;
      }
    }

    private int add(int kind, int start, long value, int end) {
      if (size >= 0 && size < kinds.length && size < starts.length && size < values.length) {
        kinds[size] = kind;
        starts[size] = start;
        values[size] = value;
        size++;
      }
      return end;
    }
  }

  /** Reads a tape as a bundle, from the first token to the last, and builds a shop of it as long as there is no error. */
  private static final class Parser {
    int errorPlace;
    Shop shop;
    private final Tokens tokens = new Tokens();
    // All names told so far: a name's sort is the keyword that it stands behind.
    private final long[] names = new long[MAX_NAMES];
    private final int[] sorts = new int[MAX_NAMES];
    private int nameCount;
    // The formula that is being read.
    private final int[] ops = new int[MAX_TOKENS];
    private final int[] args = new int[MAX_TOKENS];
    private int opCount;
    // The token looked at.
    private int index;
    private int kind;
    private int start;
    private long value;
    private int error;

    int read(byte[] tape, int length, int hour) {
      tokens.cut(tape, length);
      shop = new Shop(hour);
      nameCount = 0;
      error = 0;
      errorPlace = -1;
      index = -1;
      advance();
      for (int i = 0; i < MAX_TOKENS && startsLine(); i++) {
        switch (kind) {
          case CARD: cardLine(); break;
          case HAND: handLine(); break;
          case JERSEY: jerseyLine(); break;
          default: ticketLine(); break;
        }
        expect(';');
      }
      if (kind != END) breakOff();
      return error;
    }

    private boolean startsLine() {
      return kind == CARD || kind == HAND || kind == JERSEY || kind == TICKET;
    }

    private void advance() {
      if (index < -1 || index >= MAX_TOKENS) return;
      index++;
      kind = tokens.kinds[index];
      start = tokens.starts[index];
      value = tokens.values[index];
    }

    private void expect(int expected) {
      if (kind == expected) advance();
      else breakOff();
    }

    /** Tells error 1, in the place of any other; the token looked at fits nowhere from here on, so that all reading ends. */
    private void breakOff() {
      if (error == 1) return;
      error = 1;
      errorPlace = start;
      kind = BAD;
    }

    /** Tells an error of 2 to 5 at the token looked at, if it is the first. */
    private void fault(int number) {
      if (error != 0) return;
      error = number;
      errorPlace = start;
    }

    private void cardLine() {
      advance();
      long name = newName(CARD, shop.cards.size(), MAX_CARDS);
      expect(PLY);
      int ply = number(1, MAX_PLY);
      expect(YARDS);
      int yards = number(0, MAX_YARDS);
      expect(PRICE);
      int price = number(1, MAX_PRICE);
      if (error != 0) return;
      tell(CARD, name);
      shop.cards.add(new Card(ply, yards, price));
    }

    private void handLine() {
      advance();
      long name = newName(HAND, shop.hands.size(), MAX_HANDS);
      expect(NEEDLE);
      int needle = number(1, MAX_NEEDLE);
      expect(PACE);
      int pace = number(1, MAX_PACE);
      if (error != 0) return;
      tell(HAND, name);
      shop.hands.add(new Hand(needle, pace));
    }

    private void jerseyLine() {
      advance();
      long name = newName(JERSEY, shop.jerseys.size(), MAX_JERSEYS);
      expect(CLOTH);
      int cloth = number(1, MAX_CLOTH);
      expect(ELBOWS);
      int elbows = number(0, MAX_ELBOWS);
      if (error != 0) return;
      tell(JERSEY, name);
      shop.jerseys.add(new Jersey(shop.jerseys.size(), cloth, elbows));
    }

    private void ticketLine() {
      advance();
      long name = newName(TICKET, shop.tickets.size(), MAX_TICKETS);
      expect(FOR);
      Jersey jersey = shop.jerseyAt(oldName(JERSEY));
      Formula test = null;
      if (kind == WHEN) test = readTest();
      ArrayList<Step> steps = new ArrayList<Step>();
      readStep(steps);
      for (int i = 0; i < MAX_TOKENS && kind == THEN; i++) {
        advance();
        readStep(steps);
      }
      if (error != 0 || jersey == null) return;
      // Not before here, as a ticket is not told ahead in its own test and steps.
      tell(TICKET, name);
      shop.addTicket(new Ticket(shop.tickets.size(), name, jersey, test, steps));
    }

    private void readStep(ArrayList<Step> steps) {
      if (kind == DARN && steps.size() >= MAX_STEPS) fault(4);
      expect(DARN);
      Formula wide = readSum();
      expect(BY);
      Formula high = readSum();
      expect(AT);
      Formula left = readSum();
      expect(ON);
      Formula top = readSum();
      expect(WITH);
      Card card = shop.cardAt(oldName(CARD));
      if (error == 0 && card != null) steps.add(new Step(wide, high, left, top, card));
    }

    private long newName(int sort, int toldOfSort, int most) {
      long name = value;
      if (kind != NAME) {
        breakOff();
        return name;
      }
      if (find(sort, name) >= 0) fault(2);
      if (toldOfSort >= most) fault(4);
      advance();
      return name;
    }

    private int oldName(int sort) {
      if (kind != NAME) {
        breakOff();
        return -1;
      }
      int found = find(sort, value);
      if (found < 0) fault(3);
      advance();
      return found;
    }

    private int number(int least, int most) {
      if (kind != NUMBER) {
        breakOff();
        return least;
      }
      int number = (int) value;
      if (number < least || number > most) fault(5);
      advance();
      return number;
    }

    private void tell(int sort, long name) {
      if (nameCount < 0 || nameCount >= MAX_NAMES) return;
      names[nameCount] = name;
      sorts[nameCount] = sort;
      nameCount++;
    }

    /** Which one of its sort has this name, from 0; -1 if none has. */
    private int find(int sort, long name) {
      int number = 0;
      for (int i = 0; i < nameCount && i < MAX_NAMES; i++) {
        if (sorts[i] != sort) continue;
        if (names[i] == name) return number;
        number++;
      }
      return -1;
    }

    private Formula readTest() {
      advance();
      opCount = 0;
      test(0);
      return formula();
    }

    private Formula readSum() {
      opCount = 0;
      sum(0);
      return formula();
    }

    private Formula formula() {
      int many = Math.max(0, Math.min(opCount, MAX_TOKENS));
      return new Formula(Arrays.copyOf(ops, many), Arrays.copyOf(args, many));
    }

    private void emit(int op, int arg) {
      if (opCount < 0 || opCount >= MAX_TOKENS) return;
      ops[opCount] = op;
      args[opCount] = arg;
      opCount++;
    }

    private void test(int depth) {
      both(depth);
      for (int i = 0; i < MAX_TOKENS && kind == OR; i++) {
        advance();
        both(depth);
        emit(OR, 0);
      }
    }

    private void both(int depth) {
      single(depth);
      for (int i = 0; i < MAX_TOKENS && kind == AND; i++) {
        advance();
        single(depth);
        emit(AND, 0);
      }
    }

    private void single(int depth) {
      if (kind == NOT) {
        if (goDeeper(depth)) single(depth + 1);
        emit(NOT, 0);
      } else if (kind == '[') {
        if (goDeeper(depth)) test(depth + 1);
        expect(']');
      } else if (kind == FREE) {
        advance();
        emit(FREE, oldName(HAND));
      } else {
        sum(depth);
        int op = kind;
        if (isComparison(op)) advance();
        else breakOff();
        sum(depth);
        emit(op, 0);
      }
    }

    private static boolean isComparison(int kind) {
      return kind == '<' || kind == '>' || kind == '=' || kind == AT_MOST || kind == AT_LEAST;
    }

    /** Takes a token behind which the depth is one greater; false if it would be too great there. */
    private boolean goDeeper(int depth) {
      if (depth >= MAX_DEPTH) {
        breakOff();
        return false;
      }
      advance();
      return true;
    }

    private void sum(int depth) {
      product(depth);
      for (int i = 0; i < MAX_TOKENS && (kind == '+' || kind == '-'); i++) {
        int op = kind;
        advance();
        product(depth);
        emit(op, 0);
      }
    }

    private void product(int depth) {
      factor(depth);
      for (int i = 0; i < MAX_TOKENS && (kind == '*' || kind == '/'); i++) {
        int op = kind;
        advance();
        factor(depth);
        emit(op, 0);
      }
    }

    private void factor(int depth) {
      int op = kind;
      switch (op) {
        case NUMBER:
          emit(op, (int) value);
          advance();
          break;
        case HOUR: case WAITS:
          emit(op, 0);
          advance();
          break;
        case WOOL:
          advance();
          emit(op, oldName(CARD));
          break;
        case HOLES: case THIN:
          advance();
          emit(op, oldName(JERSEY));
          break;
        case STITCHES:
          advance();
          emit(op, oldName(TICKET));
          break;
        case '-':
          if (goDeeper(depth)) factor(depth + 1);
          emit(NEGATE, 0);
          break;
        case '(':
          if (goDeeper(depth)) sum(depth + 1);
          expect(')');
          break;
        case MIN: case MAX:
          advance();
          if (kind != '(') breakOff();
          else if (goDeeper(depth)) pair(depth + 1);
          emit(op, 0);
          break;
        default:
          breakOff();
          break;
      }
    }

    private void pair(int depth) {
      sum(depth);
      expect(',');
      sum(depth);
      expect(')');
    }
  }

  /** A sum or a test: each operator stands behind what it joins, so that it is reckoned without recursion. */
  private static final class Formula {
    final int[] ops;
    final int[] args;

    Formula(int[] ops, int[] args) {
      this.ops = ops;
      this.args = args;
    }

    static boolean isLeaf(int op) {
      return op == NUMBER || op >= HOUR && op <= FREE;
    }

    static boolean isTurn(int op) {
      return op == NEGATE || op == NOT;
    }

    /** Tests are 1 or 0. */
    static int turned(int op, int side) {
      return op == NOT ? 1 - side : -side;
    }

    static int joined(int op, int left, int right) {
      switch (op) {
        case '+': return left + right;
        case '-': return left - right;
        case '*': return left * right;
        case '/': return right == 0 ? 0 : left / right;
        case MIN: return Math.min(left, right);
        case MAX: return Math.max(left, right);
        case '<': return left < right ? 1 : 0;
        case '>': return left > right ? 1 : 0;
        case '=': return left == right ? 1 : 0;
        case AT_MOST: return left <= right ? 1 : 0;
        case AT_LEAST: return left >= right ? 1 : 0;
        case AND: return left & right;
        default: return left | right;
      }
    }
  }

  /** A part of a ticket: which cells are darned, and with which card. */
  private static final class Step {
    final Formula wide;
    final Formula high;
    final Formula left;
    final Formula top;
    final Card card;

    Step(Formula wide, Formula high, Formula left, Formula top, Card card) {
      this.wide = wide;
      this.high = high;
      this.left = left;
      this.top = top;
      this.card = card;
    }
  }

  private static final class Card {
    final int ply;
    final int price;
    int yards;
    private int keptYards;

    Card(int ply, int yards, int price) {
      this.ply = ply;
      this.yards = yards;
      this.price = price;
    }

    void remember() {
      keptYards = yards;
    }

    void recall() {
      yards = keptYards;
    }
  }

  private static final class Hand {
    final int needle;
    int pace;
    // What it has at hand: no ticket, no card, step -1 and no cells, if it is free.
    Ticket ticket;
    Card card;
    int step = -1;
    int cellCount;
    int woven;
    int stitches;
    // The cells of the step, in the order in which they are woven.
    private final int[] cells = new int[CELLS];
    private Ticket keptTicket;
    private Card keptCard;
    private int keptStep;
    private int keptCellCount;
    private int keptWoven;
    private int keptStitches;
    private final int[] keptCells = new int[CELLS];

    Hand(int needle, int pace) {
      this.needle = needle;
      this.pace = pace;
    }

    void layOut(int wide, int high, int left, int top) {
      woven = 0;
      cellCount = 0;
      if (needle == 0) return;
      for (int odd = 0; odd < 2; odd++) {
        for (int cell = 0; cell < CELLS; cell++) {
          int x = cell % WIDTH;
          int y = cell / WIDTH;
          boolean inStep = isWithin(x, left, wide) && isWithin(y, top, high);
          if (inStep && (x / needle + y) % 2 == odd && cellCount < CELLS) cells[cellCount++] = cell;
        }
      }
    }

    private static boolean isWithin(int at, int from, int many) {
      return at >= from && (long) at - from < many;
    }

    void weave() {
      if (ticket == null || card == null || woven < 0 || woven >= CELLS) return;
      ticket.jersey.thicken(cells[woven], card.ply);
      card.yards--;
      ticket.stitches++;
      ticket.price += card.price;
      woven++;
      stitches++;
    }

    void layDown() {
      ticket = null;
      card = null;
      step = -1;
      cellCount = 0;
      woven = 0;
    }

    void remember() {
      keptTicket = ticket;
      keptCard = card;
      keptStep = step;
      keptCellCount = cellCount;
      keptWoven = woven;
      keptStitches = stitches;
      System.arraycopy(cells, 0, keptCells, 0, CELLS);
    }

    void recall() {
      ticket = keptTicket;
      card = keptCard;
      step = keptStep;
      cellCount = keptCellCount;
      woven = keptWoven;
      stitches = keptStitches;
      System.arraycopy(keptCells, 0, cells, 0, CELLS);
    }
  }

  /** Cells are numbered row by row, from 0. */
  private static final class Jersey {
    final int number;
    final int[] thick = new int[CELLS];
    private final int elbows;
    private final int[] before = new int[CELLS];
    private final int[] kept = new int[CELLS];

    Jersey(int number, int cloth, int elbows) {
      this.number = number;
      this.elbows = elbows;
      Arrays.fill(thick, cloth);
    }

    int holes() {
      int holes = 0;
      for (int cell : thick) {
        if (cell == 0) holes++;
      }
      return holes;
    }

    int thinnest() {
      int thinnest = MAX_THICK;
      for (int cell : thick) thinnest = Math.min(thinnest, cell);
      return thinnest;
    }

    int allThick() {
      int all = 0;
      for (int cell : thick) all += cell;
      return all;
    }

    void thicken(int cell, int ply) {
      if (cell < 0 || cell >= CELLS) return;
      thick[cell] = Math.min(MAX_THICK, thick[cell] + ply);
    }

    void wearOnce() {
      System.arraycopy(thick, 0, before, 0, CELLS);
      for (int cell = 0; cell < CELLS; cell++) {
        int x = cell % WIDTH;
        int y = cell / WIDTH;
        int loss = 1;
        if (isElbow(x, y)) loss += elbows;
        if (wasHole(x - 1, y) || wasHole(x + 1, y) || wasHole(x, y - 1) || wasHole(x, y + 1)) loss++;
        thick[cell] = Math.max(0, before[cell] - loss);
      }
    }

    private static boolean isElbow(int x, int y) {
      return (y == 2 || y == 3) && (x == 1 || x == 2 || x == 5 || x == 6);
    }

    private boolean wasHole(int x, int y) {
      return x >= 0 && x < WIDTH && y >= 0 && y < HEIGHT && before[WIDTH * y + x] == 0;
    }

    void remember() {
      System.arraycopy(thick, 0, kept, 0, CELLS);
    }

    void recall() {
      System.arraycopy(kept, 0, thick, 0, CELLS);
    }
  }

  private static final class Ticket {
    final int number;
    final long name;
    final Jersey jersey;
    final Formula test;
    final ArrayList<Step> steps;
    int state = WAITING;
    int hand = -1;
    int stitches;
    int price;
    int finishedIn = -1;
    private int keptState;
    private int keptHand;
    private int keptStitches;
    private int keptPrice;
    private int keptFinishedIn;

    /** The test is null, if the ticket has none. */
    Ticket(int number, long name, Jersey jersey, Formula test, ArrayList<Step> steps) {
      this.number = number;
      this.name = name;
      this.jersey = jersey;
      this.test = test;
      this.steps = steps;
    }

    void remember() {
      keptState = state;
      keptHand = hand;
      keptStitches = stitches;
      keptPrice = price;
      keptFinishedIn = finishedIn;
    }

    void recall() {
      state = keptState;
      hand = keptHand;
      stitches = keptStitches;
      price = keptPrice;
      finishedIn = keptFinishedIn;
    }
  }

  /** Looks for the greatest tear of a jersey. */
  private static final class Tear {
    int size;
    private int left;
    private int right;
    private int top;
    private int bottom;
    private final boolean[] seen = new boolean[CELLS];
    private final int[] found = new int[CELLS];
    private int foundCount;

    void findGreatest(Jersey jersey) {
      size = 0;
      for (int cell = 0; cell < CELLS; cell++) seen[cell] = jersey.thick[cell] > 0;
      for (int cell = 0; cell < CELLS; cell++) {
        if (seen[cell]) continue;
        collectFrom(cell);
        // Of several as great the first one stays.
        if (foundCount > size) measure();
      }
    }

    private void collectFrom(int first) {
      foundCount = 0;
      collect(first % WIDTH, first / WIDTH);
      for (int i = 0; i < foundCount && i < CELLS; i++) {
        int x = found[i] % WIDTH;
        int y = found[i] / WIDTH;
        collect(x - 1, y);
        collect(x + 1, y);
        collect(x, y - 1);
        collect(x, y + 1);
      }
    }

    private void collect(int x, int y) {
      if (x < 0 || x >= WIDTH || y < 0 || y >= HEIGHT) return;
      int cell = WIDTH * y + x;
      if (seen[cell] || foundCount < 0 || foundCount >= CELLS) return;
      seen[cell] = true;
      found[foundCount++] = cell;
    }

    private void measure() {
      size = foundCount;
      left = WIDTH;
      right = -1;
      top = HEIGHT;
      bottom = -1;
      for (int i = 0; i < foundCount && i < CELLS; i++) {
        left = Math.min(left, found[i] % WIDTH);
        right = Math.max(right, found[i] % WIDTH);
        top = Math.min(top, found[i] / WIDTH);
        bottom = Math.max(bottom, found[i] / WIDTH);
      }
    }

    int cover() {
      return size == 0 ? -1 : 1000 * left + 100 * top + 10 * (right - left + 1) + bottom - top + 1;
    }
  }

  /** The slips that were written. */
  private static final class Paper {
    final byte[] bytes = new byte[MAX_PAPER];
    int length;
    // A slip is written from its end to its beginning, as that is how the digits of a number are found.
    private final byte[] slip = new byte[MAX_SLIP];
    private int slipStart;

    void writeSlip(long name, int price) {
      slipStart = MAX_SLIP;
      putAhead('\n');
      putDigits(price);
      putAhead(' ');
      putWord(name);
      int size = MAX_SLIP - slipStart;
      if (size < 0 || size > MAX_SLIP || length < 0 || length > MAX_PAPER - size) return;
      System.arraycopy(slip, slipStart, bytes, length, size);
      length += size;
    }

    private void putAhead(int sign) {
      if (slipStart <= 0 || slipStart > MAX_SLIP) return;
      slipStart--;
      slip[slipStart] = (byte) sign;
    }

    private void putDigits(int number) {
      int rest = number;
      for (int i = 0; i < MAX_INT_DIGITS && (i == 0 || rest > 0); i++) {
        putAhead('0' + rest % 10);
        rest /= 10;
      }
    }

    private void putWord(long word) {
      long rest = word;
      for (int i = 0; i < MAX_WORD && rest > 0; i++) {
        int digit = (int) (rest % WORD_BASE);
        putAhead(digit < FIRST_DIGIT ? 'a' + digit - FIRST_LETTER : '0' + digit - FIRST_DIGIT);
        rest /= WORD_BASE;
      }
    }
  }

  /** What a bundle told, and how far the work is. */
  private static final class Shop {
    final ArrayList<Card> cards = new ArrayList<Card>();
    final ArrayList<Hand> hands = new ArrayList<Hand>();
    final ArrayList<Jersey> jerseys = new ArrayList<Jersey>();
    final ArrayList<Ticket> tickets = new ArrayList<Ticket>();
    int hour;
    // All tickets, in the order in which they are looked at.
    private final ArrayList<Ticket> order = new ArrayList<Ticket>();
    private final int[] stack = new int[MAX_STACK];
    private int keptHour;

    Shop(int hour) {
      this.hour = hour;
    }

    void addTicket(Ticket ticket) {
      tickets.add(ticket);
      order.add(ticket);
    }

    Card cardAt(int i) {
      return i >= 0 && i < cards.size() ? cards.get(i) : null;
    }

    Hand handAt(int i) {
      return i >= 0 && i < hands.size() ? hands.get(i) : null;
    }

    Jersey jerseyAt(int i) {
      return i >= 0 && i < jerseys.size() ? jerseys.get(i) : null;
    }

    Ticket ticketAt(int i) {
      return i >= 0 && i < tickets.size() ? tickets.get(i) : null;
    }

    int ticketsIn(int state) {
      int many = 0;
      for (int i = 0; i < tickets.size(); i++) {
        if (tickets.get(i).state == state) many++;
      }
      return many;
    }

    int allStitches() {
      int all = 0;
      for (int i = 0; i < tickets.size(); i++) all += tickets.get(i).stitches;
      return all;
    }

    int allPrices() {
      int all = 0;
      for (int i = 0; i < tickets.size(); i++) all += tickets.get(i).price;
      return all;
    }

    int pricesOfFinished() {
      int all = 0;
      for (int i = 0; i < tickets.size(); i++) {
        if (tickets.get(i).state == FINISHED) all += tickets.get(i).price;
      }
      return all;
    }

    int allHoles() {
      int all = 0;
      for (int i = 0; i < jerseys.size(); i++) all += jerseys.get(i).holes();
      return all;
    }

    /** The hand under which a jersey is, -1 for none. */
    int handOver(Jersey jersey) {
      for (int i = 0; i < hands.size(); i++) {
        Ticket ticket = hands.get(i).ticket;
        if (ticket != null && ticket.jersey == jersey) return i;
      }
      return -1;
    }

    /** Which one a ticket is of those that wait, in the order; -1 if it does not wait. */
    int placeOf(Ticket ticket) {
      int place = 0;
      for (int i = 0; i < order.size(); i++) {
        if (order.get(i).state != WAITING) continue;
        if (order.get(i) == ticket) return place;
        place++;
      }
      return -1;
    }

    void putAhead(Ticket ticket) {
      for (int i = 0; i < order.size(); i++) {
        if (order.get(i) == ticket) {
          order.remove(i);
          order.add(0, ticket);
          return;
        }
      }
    }

    /** Lets hours go by and tells the stitches made; the paper is null, when this is only looking ahead. */
    int goBy(int hours, Paper paper) {
      int made = 0;
      for (int i = 0; i < hours; i++) {
        takeTickets();
        for (int h = 0; h < hands.size(); h++) made += stitch(hands.get(h), paper);
        if (hour % WEAR_EVERY == WEAR_EVERY - 1) wearFreeJerseys();
        hour++;
      }
      return made;
    }

    private void takeTickets() {
      for (int i = 0; i < hands.size(); i++) {
        Hand hand = hands.get(i);
        if (hand.ticket != null) continue;
        Ticket ticket = firstReady();
        if (ticket == null) continue;
        ticket.state = AT_HAND;
        ticket.hand = i;
        hand.ticket = ticket;
        begin(hand, ticket, 0);
      }
    }

    /** The first ticket in the order that a free hand can take, null for none. */
    private Ticket firstReady() {
      for (int i = 0; i < order.size(); i++) {
        Ticket ticket = order.get(i);
        if (ticket.state != WAITING || handOver(ticket.jersey) >= 0) continue;
        if (ticket.test == null || reckon(ticket.test) != 0) return ticket;
      }
      return null;
    }

    private void begin(Hand hand, Ticket ticket, int number) {
      if (number < 0 || number >= ticket.steps.size()) return;
      Step step = ticket.steps.get(number);
      hand.step = number;
      hand.card = step.card;
      hand.layOut(reckon(step.wide), reckon(step.high), reckon(step.left), reckon(step.top));
    }

    /** What a hand makes in an hour: each turn is a stitch, or the end of a step. */
    private int stitch(Hand hand, Paper paper) {
      int made = 0;
      for (int turn = 0; turn < hand.pace + MAX_STEPS; turn++) {
        Ticket ticket = hand.ticket;
        Card card = hand.card;
        if (ticket == null || card == null) break;
        if (hand.woven < hand.cellCount) {
          if (made == hand.pace || card.yards == 0) break;
          hand.weave();
          made++;
        } else if (hand.step + 1 < ticket.steps.size()) {
          begin(hand, ticket, hand.step + 1);
        } else {
          finish(hand, ticket, paper);
        }
      }
      return made;
    }

    private void finish(Hand hand, Ticket ticket, Paper paper) {
      ticket.state = FINISHED;
      ticket.hand = -1;
      ticket.finishedIn = hour;
      hand.layDown();
      if (paper != null) paper.writeSlip(ticket.name, ticket.price);
    }

    private void wearFreeJerseys() {
      for (int i = 0; i < jerseys.size(); i++) {
        Jersey jersey = jerseys.get(i);
        if (handOver(jersey) < 0) jersey.wearOnce();
      }
    }

    private int reckon(Formula formula) {
      int top = 0;
      for (int i = 0; i < formula.ops.length && i < formula.args.length; i++) {
        int op = formula.ops[i];
        if (Formula.isLeaf(op)) {
          if (top < MAX_STACK) stack[top++] = leaf(op, formula.args[i]);
        } else if (Formula.isTurn(op)) {
          if (top > 0) stack[top - 1] = Formula.turned(op, stack[top - 1]);
        } else if (top > 1) {
          top--;
          stack[top - 1] = Formula.joined(op, stack[top - 1], stack[top]);
        }
      }
      return top > 0 ? stack[0] : 0;
    }

    private int leaf(int op, int arg) {
      switch (op) {
        case HOUR: return hour;
        case WAITS: return ticketsIn(WAITING);
        case WOOL: return arg >= 0 && arg < cards.size() ? cards.get(arg).yards : 0;
        case HOLES: return arg >= 0 && arg < jerseys.size() ? jerseys.get(arg).holes() : 0;
        case THIN: return arg >= 0 && arg < jerseys.size() ? jerseys.get(arg).thinnest() : 0;
        case STITCHES: return arg >= 0 && arg < tickets.size() ? tickets.get(arg).stitches : 0;
        case FREE: return arg >= 0 && arg < hands.size() && hands.get(arg).ticket == null ? 1 : 0;
        default: return arg;
      }
    }

    /** Keeps how far the work is, so that a look ahead can go on with the things themselves, and recall() it behind it. */
    void remember() {
      keptHour = hour;
      for (int i = 0; i < cards.size(); i++) cards.get(i).remember();
      for (int i = 0; i < hands.size(); i++) hands.get(i).remember();
      for (int i = 0; i < jerseys.size(); i++) jerseys.get(i).remember();
      for (int i = 0; i < tickets.size(); i++) tickets.get(i).remember();
    }

    void recall() {
      hour = keptHour;
      for (int i = 0; i < cards.size(); i++) cards.get(i).recall();
      for (int i = 0; i < hands.size(); i++) hands.get(i).recall();
      for (int i = 0; i < jerseys.size(); i++) jerseys.get(i).recall();
      for (int i = 0; i < tickets.size(); i++) tickets.get(i).recall();
    }
  }
}
