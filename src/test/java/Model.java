import java.util.ArrayList;
import java.util.List;

/**
 * The workroom once more, as plainly as the document tells it, for ModelTest to compare with. It reads no bundles, sums
 * and tests are functions, and looking ahead goes on with a copy.
 */
final class Model {
  /** What a sum or a test comes to in a room; a test that holds is 1, else 0. */
  interface Sum {
    int of(Model room);
  }

  static final class Card {
    int ply;
    int yards;
    int price;
  }

  static final class Hand {
    int needle;
    int pace;
    int ticket = -1;
    int step = -1;
    List<int[]> left = new ArrayList<>();
    int stitches;
  }

  static final class Jersey {
    int[][] rows = new int[6][8];
    int elbows;
  }

  static final class Step {
    Sum darn;
    Sum by;
    Sum at;
    Sum on;
    int card;
  }

  static final class Ticket {
    String name;
    int jersey;
    Sum test;
    List<Step> steps = new ArrayList<>();
    int state;
    int hand = -1;
    int stitches;
    int price;
    int doneIn = -1;
  }

  List<Card> cards = new ArrayList<>();
  List<Hand> hands = new ArrayList<>();
  List<Jersey> jerseys = new ArrayList<>();
  List<Ticket> tickets = new ArrayList<>();
  List<Integer> order = new ArrayList<>();
  int hour;
  String paper = "";

  Model copy() {
    Model copy = new Model();
    for (Card card : cards) copy.cards.add(copyOf(card));
    for (Hand hand : hands) copy.hands.add(copyOf(hand));
    for (Jersey jersey : jerseys) copy.jerseys.add(copyOf(jersey));
    for (Ticket ticket : tickets) copy.tickets.add(copyOf(ticket));
    copy.order.addAll(order);
    copy.hour = hour;
    copy.paper = paper;
    return copy;
  }

  private static Card copyOf(Card card) {
    Card copy = new Card();
    copy.ply = card.ply;
    copy.yards = card.yards;
    copy.price = card.price;
    return copy;
  }

  private static Hand copyOf(Hand hand) {
    Hand copy = new Hand();
    copy.needle = hand.needle;
    copy.pace = hand.pace;
    copy.ticket = hand.ticket;
    copy.step = hand.step;
    copy.left.addAll(hand.left);
    copy.stitches = hand.stitches;
    return copy;
  }

  private static Jersey copyOf(Jersey jersey) {
    Jersey copy = new Jersey();
    for (int y = 0; y < 6; y++) copy.rows[y] = jersey.rows[y].clone();
    copy.elbows = jersey.elbows;
    return copy;
  }

  private static Ticket copyOf(Ticket ticket) {
    Ticket copy = new Ticket();
    copy.name = ticket.name;
    copy.jersey = ticket.jersey;
    copy.test = ticket.test;
    copy.steps = ticket.steps;
    copy.state = ticket.state;
    copy.hand = ticket.hand;
    copy.stitches = ticket.stitches;
    copy.price = ticket.price;
    copy.doneIn = ticket.doneIn;
    return copy;
  }

  int thatAre(int state) {
    return (int) tickets.stream().filter(ticket -> ticket.state == state).count();
  }

  int stitches() {
    return tickets.stream().mapToInt(ticket -> ticket.stitches).sum();
  }

  int prices() {
    return tickets.stream().mapToInt(ticket -> ticket.price).sum();
  }

  int holes(int jersey) {
    int holes = 0;
    for (int[] row : jerseys.get(jersey).rows) {
      for (int thick : row) holes += thick == 0 ? 1 : 0;
    }
    return holes;
  }

  int allHoles() {
    int holes = 0;
    for (int j = 0; j < jerseys.size(); j++) holes += holes(j);
    return holes;
  }

  int thinnest(int jersey) {
    int thinnest = 30;
    for (int[] row : jerseys.get(jersey).rows) {
      for (int thick : row) thinnest = Math.min(thinnest, thick);
    }
    return thinnest;
  }

  int handOver(int jersey) {
    for (Ticket ticket : tickets) {
      if (ticket.state == 1 && ticket.jersey == jersey) return ticket.hand;
    }
    return -1;
  }

  /** Those that wait, in the order. */
  List<Integer> waiting() {
    List<Integer> waiting = new ArrayList<>();
    for (int ticket : order) {
      if (tickets.get(ticket).state == 0) waiting.add(ticket);
    }
    return waiting;
  }

  void hour() {
    for (int h = 0; h < hands.size(); h++) {
      if (hands.get(h).ticket < 0) take(h);
    }
    for (Hand hand : hands) {
      if (hand.ticket >= 0) weave(hand);
    }
    if (hour % 12 == 11) {
      for (int j = 0; j < jerseys.size(); j++) {
        if (handOver(j) < 0) wear(j);
      }
    }
    hour++;
  }

  private void take(int h) {
    for (int t : waiting()) {
      Ticket ticket = tickets.get(t);
      if (handOver(ticket.jersey) >= 0) continue;
      if (ticket.test != null && ticket.test.of(this) == 0) continue;
      ticket.state = 1;
      ticket.hand = h;
      hands.get(h).ticket = t;
      begin(hands.get(h), 0);
      return;
    }
  }

  private void begin(Hand hand, int number) {
    Step step = tickets.get(hand.ticket).steps.get(number);
    long darn = step.darn.of(this);
    long by = step.by.of(this);
    long at = step.at.of(this);
    long on = step.on.of(this);
    List<int[]> even = new ArrayList<>();
    List<int[]> others = new ArrayList<>();
    for (int y = 0; y < 6; y++) {
      for (int x = 0; x < 8; x++) {
        if (x < at || x >= at + darn || y < on || y >= on + by) continue;
        ((x / hand.needle + y) % 2 == 0 ? even : others).add(new int[] {x, y});
      }
    }
    hand.step = number;
    hand.left = even;
    hand.left.addAll(others);
  }

  private void weave(Hand hand) {
    Ticket ticket = tickets.get(hand.ticket);
    int stitches = 0;
    while (true) {
      while (hand.left.isEmpty()) {
        if (hand.step + 1 == ticket.steps.size()) {
          end(hand, ticket);
          return;
        }
        begin(hand, hand.step + 1);
      }
      Card card = cards.get(ticket.steps.get(hand.step).card);
      if (stitches == hand.pace || card.yards == 0) return;
      int[] cell = hand.left.remove(0);
      int[] row = jerseys.get(ticket.jersey).rows[cell[1]];
      row[cell[0]] = Math.min(30, row[cell[0]] + card.ply);
      card.yards--;
      ticket.stitches++;
      ticket.price += card.price;
      hand.stitches++;
      stitches++;
    }
  }

  private void end(Hand hand, Ticket ticket) {
    ticket.state = 2;
    ticket.hand = -1;
    ticket.doneIn = hour;
    hand.ticket = -1;
    hand.step = -1;
    String slip = ticket.name + " " + ticket.price + "\n";
    if (paper.length() + slip.length() <= 400) paper += slip;
  }

  private boolean isHole(int[][] rows, int x, int y) {
    return x >= 0 && x < 8 && y >= 0 && y < 6 && rows[y][x] == 0;
  }

  void wear(int j) {
    Jersey jersey = jerseys.get(j);
    int[][] worn = new int[6][8];
    for (int y = 0; y < 6; y++) {
      for (int x = 0; x < 8; x++) {
        if (jersey.rows[y][x] == 0) continue;
        worn[y][x] = jersey.rows[y][x] - 1;
        if ((y == 2 || y == 3) && List.of(1, 2, 5, 6).contains(x)) worn[y][x] -= jersey.elbows;
        boolean beside = isHole(jersey.rows, x - 1, y) || isHole(jersey.rows, x + 1, y);
        if (beside || isHole(jersey.rows, x, y - 1) || isHole(jersey.rows, x, y + 1)) worn[y][x]--;
        worn[y][x] = Math.max(0, worn[y][x]);
      }
    }
    jersey.rows = worn;
  }

  /** The cells of the greatest tear; of several as great that with the first hole. */
  List<int[]> tear(int j) {
    boolean[][] seen = new boolean[6][8];
    List<int[]> greatest = new ArrayList<>();
    for (int y = 0; y < 6; y++) {
      for (int x = 0; x < 8; x++) {
        List<int[]> tear = new ArrayList<>();
        gather(jerseys.get(j).rows, seen, x, y, tear);
        if (tear.size() > greatest.size()) greatest = tear;
      }
    }
    return greatest;
  }

  private void gather(int[][] rows, boolean[][] seen, int x, int y, List<int[]> tear) {
    if (!isHole(rows, x, y) || seen[y][x]) return;
    seen[y][x] = true;
    tear.add(new int[] {x, y});
    gather(rows, seen, x - 1, y, tear);
    gather(rows, seen, x + 1, y, tear);
    gather(rows, seen, x, y - 1, tear);
    gather(rows, seen, x, y + 1, tear);
  }

  int patch(int j) {
    List<int[]> tear = tear(j);
    if (tear.isEmpty()) return -1;
    int x = tear.stream().mapToInt(cell -> cell[0]).min().getAsInt();
    int y = tear.stream().mapToInt(cell -> cell[1]).min().getAsInt();
    int wide = tear.stream().mapToInt(cell -> cell[0]).max().getAsInt() - x + 1;
    int high = tear.stream().mapToInt(cell -> cell[1]).max().getAsInt() - y + 1;
    return 1000 * x + 100 * y + 10 * wide + high;
  }

  Model behind(int hours) {
    Model later = copy();
    for (int i = 0; i < hours; i++) later.hour();
    return later;
  }

  int done(int ticket) {
    Model later = copy();
    for (int hours = 0; hours <= 200; hours++) {
      if (later.tickets.get(ticket).state == 2) return hours;
      later.hour();
    }
    return -1;
  }

  int lasts(int jersey) {
    Model later = copy();
    for (int hours = 0; hours <= 200; hours++) {
      if (later.holes(jersey) > 0) return hours;
      later.hour();
    }
    return -1;
  }

  int foresee(int hours, int what) {
    Model later = behind(hours);
    switch (what) {
      case 0: return later.stitches() - stitches();
      case 1: return later.allHoles();
      case 2: return later.thatAre(2);
      default: return later.prices();
    }
  }

  int advise(int hours) {
    int best = -1;
    int most = behind(hours).thatAre(2);
    for (int h = 0; h < hands.size(); h++) {
      Model faster = copy();
      faster.hands.get(h).pace++;
      int done = faster.behind(hours).thatAre(2);
      if (done > most) {
        most = done;
        best = h;
      }
    }
    return best;
  }

  double mean() {
    double prices = 0;
    for (Ticket ticket : tickets) prices += ticket.state == 2 ? ticket.price : 0;
    return thatAre(2) == 0 ? 0 : prices / thatAre(2);
  }

  int count(int what) {
    int[] counts = {hour, cards.size(), hands.size(), jerseys.size(), tickets.size(), thatAre(0), thatAre(2), stitches(), allHoles(),
        prices(), paper.length(), 0};
    return counts[what];
  }

  int card(int card, int what) {
    Card asked = cards.get(card);
    return new int[] {asked.ply, asked.yards, asked.price}[what];
  }

  int hand(int hand, int what) {
    Hand asked = hands.get(hand);
    return new int[] {asked.needle, asked.pace, asked.ticket, asked.step, asked.left.size(), asked.stitches}[what];
  }

  int jersey(int jersey, int what) {
    int all = 0;
    for (int[] row : jerseys.get(jersey).rows) {
      for (int thick : row) all += thick;
    }
    return new int[] {holes(jersey), thinnest(jersey), handOver(jersey), all}[what];
  }

  int ticket(int ticket, int what) {
    Ticket asked = tickets.get(ticket);
    return new int[] {asked.state, asked.hand, asked.stitches, asked.price, asked.doneIn, waiting().indexOf(ticket), asked.jersey,
        asked.steps.size()}[what];
  }

  long digest() {
    List<Integer> told = new ArrayList<>();
    for (int what = 0; what < 12; what++) told.add(count(what));
    for (int i = 0; i < 3 * cards.size(); i++) told.add(card(i / 3, i % 3));
    for (int i = 0; i < 6 * hands.size(); i++) told.add(hand(i / 6, i % 6));
    for (int j = 0; j < jerseys.size(); j++) {
      for (int what = 0; what < 4; what++) told.add(jersey(j, what));
      told.add(tear(j).size());
      for (int i = 0; i < 48; i++) told.add(jerseys.get(j).rows[i / 8][i % 8]);
    }
    for (int i = 0; i < 8 * tickets.size(); i++) told.add(ticket(i / 8, i % 8));
    for (char sign : paper.toCharArray()) told.add((int) sign);
    long d = 751;
    for (int x : told) d = d * 31 + x;
    return d;
  }
}
