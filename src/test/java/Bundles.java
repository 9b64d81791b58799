import java.util.ArrayList;
import java.util.List;
import java.util.Random;

/** Makes bundles by chance, always the same ones for a seed: the text, and beside it the model of what it tells. */
final class Bundles {
  private static final String[] COMPARISONS = {"<", ">", "=", "<=", ">="};

  /** A part of a text, and what it comes to. */
  private static final class Part {
    final String text;
    final Model.Sum sum;

    Part(String text, Model.Sum sum) {
      this.text = text;
      this.sum = sum;
    }
  }

  private final Random random;
  // A plain bundle has many tickets with few sums and tests, any other one few tickets with many.
  private boolean plain;
  Model model;
  String text;

  Bundles(long seed) {
    random = new Random(seed);
  }

  /** Makes the next bundle that has room on the tape; the hour and the paper stay. */
  void next(int hour, String paper) {
    do {
      plain = oneIn(2);
      model = new Model();
      model.hour = hour;
      model.paper = paper;
      StringBuilder lines = new StringBuilder();
      int cards = from(1, 6);
      for (int i = 0; i < cards; i++) lines.append(card(i));
      int hands = from(1, 4);
      for (int i = 0; i < hands; i++) lines.append(hand(i));
      int jerseys = from(1, 6);
      for (int i = 0; i < jerseys; i++) lines.append(jersey(i));
      int tickets = plain ? from(8, 12) : from(1, 6);
      for (int i = 0; i < tickets; i++) lines.append(ticket(i));
      text = lines.toString();
    } while (text.length() > 2000 || Rooms.starts(text).length > 401);
  }

  private int from(int least, int most) {
    return least + random.nextInt(most - least + 1);
  }

  private boolean oneIn(int many) {
    return random.nextInt(many) == 0;
  }

  private String card(int number) {
    Model.Card card = new Model.Card();
    card.ply = from(1, 9);
    card.yards = oneIn(3) ? from(0, 30) : from(0, 999);
    card.price = from(1, 20);
    model.cards.add(card);
    return "card c" + number + " ply " + card.ply + " yards " + card.yards + " price " + card.price + ";";
  }

  private String hand(int number) {
    Model.Hand hand = new Model.Hand();
    hand.needle = from(1, 4);
    hand.pace = from(1, 9);
    model.hands.add(hand);
    return "hand h" + number + " needle " + hand.needle + " pace " + hand.pace + ";";
  }

  private String jersey(int number) {
    Model.Jersey jersey = new Model.Jersey();
    int cloth = oneIn(2) ? from(1, 4) : from(1, 20);
    for (int[] row : jersey.rows) java.util.Arrays.fill(row, cloth);
    jersey.elbows = from(0, 3);
    model.jerseys.add(jersey);
    return "jersey j" + number + " cloth " + cloth + " elbows " + jersey.elbows + ";";
  }

  private String ticket(int number) {
    Model.Ticket ticket = new Model.Ticket();
    ticket.name = "t" + number + (oneIn(3) ? "abcdefg" : "");
    ticket.jersey = random.nextInt(model.jerseys.size());
    StringBuilder line = new StringBuilder("ticket " + ticket.name + " for j" + ticket.jersey);
    if (oneIn(plain ? 5 : 2)) {
      Part test = test(2);
      ticket.test = test.sum;
      line.append(" when ").append(test.text);
    }
    int steps = oneIn(plain ? 8 : 2) ? from(2, 6) : 1;
    for (int i = 0; i < steps; i++) line.append(i == 0 ? " " : " then ").append(step(ticket));
    model.order.add(number);
    model.tickets.add(ticket);
    return line + ";";
  }

  private String step(Model.Ticket ticket) {
    Part[] sums = {size(8), size(6), size(7), size(5)};
    Model.Step step = new Model.Step();
    step.darn = sums[0].sum;
    step.by = sums[1].sum;
    step.at = sums[2].sum;
    step.on = sums[3].sum;
    step.card = random.nextInt(model.cards.size());
    ticket.steps.add(step);
    return "darn " + sums[0].text + " by " + sums[1].text + " at " + sums[2].text + " on " + sums[3].text + " with c" + step.card;
  }

  private Part size(int most) {
    return oneIn(plain ? 20 : 2) ? sum(2) : number(from(0, most));
  }

  private static Part number(int number) {
    return new Part(Integer.toString(number), room -> number);
  }

  private Part test(int deep) {
    Part left = both(deep);
    while (oneIn(4)) {
      Part first = left;
      Part right = both(deep);
      left = new Part(first.text + " or " + right.text, room -> first.sum.of(room) + right.sum.of(room) > 0 ? 1 : 0);
    }
    return left;
  }

  private Part both(int deep) {
    Part left = single(deep);
    while (oneIn(4)) {
      Part first = left;
      Part right = single(deep);
      left = new Part(first.text + " and " + right.text, room -> first.sum.of(room) * right.sum.of(room));
    }
    return left;
  }

  private Part single(int deep) {
    int kind = deep == 0 ? from(2, 5) : from(0, 5);
    if (kind == 0) {
      Part turned = single(deep - 1);
      return new Part("not " + turned.text, room -> turned.sum.of(room) == 0 ? 1 : 0);
    }
    if (kind == 1) {
      Part inside = test(deep - 1);
      return new Part("[" + inside.text + "]", inside.sum);
    }
    if (kind == 2) {
      int hand = random.nextInt(model.hands.size());
      return new Part("free h" + hand, room -> room.hands.get(hand).ticket < 0 ? 1 : 0);
    }
    Part left = sum(1);
    Part right = sum(1);
    int comparison = random.nextInt(COMPARISONS.length);
    return new Part(left.text + COMPARISONS[comparison] + right.text,
        room -> compared(comparison, left.sum.of(room), right.sum.of(room)) ? 1 : 0);
  }

  private static boolean compared(int comparison, int left, int right) {
    switch (COMPARISONS[comparison]) {
      case "<": return left < right;
      case ">": return left > right;
      case "=": return left == right;
      case "<=": return left <= right;
      default: return left >= right;
    }
  }

  private Part sum(int deep) {
    Part left = product(deep);
    while (oneIn(3)) {
      Part first = left;
      Part right = product(deep);
      left = oneIn(2) ? new Part(first.text + " + " + right.text, room -> first.sum.of(room) + right.sum.of(room))
          : new Part(first.text + " - " + right.text, room -> first.sum.of(room) - right.sum.of(room));
    }
    return left;
  }

  private Part product(int deep) {
    Part left = value(deep);
    while (oneIn(4)) {
      Part first = left;
      Part right = value(deep);
      left = oneIn(2) ? new Part(first.text + "*" + right.text, room -> first.sum.of(room) * right.sum.of(room))
          : new Part(first.text + "/" + right.text, room -> divided(first.sum.of(room), right.sum.of(room)));
    }
    return left;
  }

  private static int divided(int left, int right) {
    return right == 0 ? 0 : (int) ((long) left / right);
  }

  private Part value(int deep) {
    switch (deep == 0 ? random.nextInt(8) : random.nextInt(12)) {
      case 0: return number(oneIn(4) ? from(0, 999999) : from(0, 50));
      case 1: return new Part("hour", room -> room.hour);
      case 2: return new Part("waits", room -> room.thatAre(0));
      case 3: return ofCard(random.nextInt(model.cards.size()));
      case 4: return ofHoles(random.nextInt(model.jerseys.size()));
      case 5: return ofThin(random.nextInt(model.jerseys.size()));
      case 6: return model.tickets.isEmpty() ? number(7) : ofTicket(random.nextInt(model.tickets.size()));
      case 7: return number(from(0, 9));
      case 8: return turned(value(deep - 1));
      case 9: return inside(sum(deep - 1));
      case 10: return pair("min", sum(deep - 1), sum(deep - 1));
      default: return pair("max", sum(deep - 1), sum(deep - 1));
    }
  }

  private static Part ofCard(int card) {
    return new Part("wool c" + card, room -> room.cards.get(card).yards);
  }

  private static Part ofHoles(int jersey) {
    return new Part("holes j" + jersey, room -> room.holes(jersey));
  }

  private static Part ofThin(int jersey) {
    return new Part("thin j" + jersey, room -> room.thinnest(jersey));
  }

  private Part ofTicket(int ticket) {
    return new Part("stitches " + model.tickets.get(ticket).name, room -> room.tickets.get(ticket).stitches);
  }

  private static Part turned(Part value) {
    return new Part("-" + value.text, room -> 0 - value.sum.of(room));
  }

  private static Part inside(Part sum) {
    return new Part("(" + sum.text + ")", sum.sum);
  }

  private static Part pair(String name, Part left, Part right) {
    boolean least = name.equals("min");
    return new Part(name + "(" + left.text + ", " + right.text + ")",
        room -> least == left.sum.of(room) < right.sum.of(room) ? left.sum.of(room) : right.sum.of(room));
  }

  /** Calls that change the room, for both, and looks whether they answer the same; many is how many. */
  void work(Due due, DarnRoom room, int many) {
    for (int i = 0; i < many; i++) {
      switch (random.nextInt(6)) {
        case 0: wind(due, room); break;
        case 1: hurry(due, room); break;
        case 2: wear(due, room); break;
        default: pass(due, room); break;
      }
      due.is("digest() in hour " + model.hour + " of " + text, room.digest(), model.digest());
    }
  }

  private void wind(Due due, DarnRoom room) {
    int card = random.nextInt(model.cards.size());
    int yards = from(1, oneIn(2) ? 500 : 20);
    Model.Card wound = model.cards.get(card);
    wound.yards = Math.min(999, wound.yards + yards);
    due.is("wind(" + card + ", " + yards + ") of " + text, room.wind(card, yards), wound.yards);
  }

  private void hurry(Due due, DarnRoom room) {
    List<Integer> waiting = new ArrayList<>(model.waiting());
    if (waiting.isEmpty()) return;
    int place = random.nextInt(waiting.size());
    Integer ticket = waiting.get(place);
    due.is("hurry(" + ticket + ") of " + text, room.hurry(ticket), place);
    model.order.remove(ticket);
    model.order.add(0, ticket);
  }

  private void wear(Due due, DarnRoom room) {
    int jersey = random.nextInt(model.jerseys.size());
    if (model.handOver(jersey) >= 0) return;
    int times = from(1, oneIn(5) ? 20 : 2);
    for (int i = 0; i < times; i++) model.wear(jersey);
    due.is("wear(" + jersey + ", " + times + ") of " + text, room.wear(jersey, times), model.holes(jersey));
  }

  private void pass(Due due, DarnRoom room) {
    int hours = from(1, oneIn(8) ? 120 : 4);
    int before = model.stitches();
    for (int i = 0; i < hours; i++) model.hour();
    due.is("pass(" + hours + ") of " + text, room.pass(hours), model.stitches() - before);
  }

  /** A question that is put to both. */
  void look(Due due, DarnRoom room) {
    int jersey = random.nextInt(model.jerseys.size());
    int ticket = random.nextInt(model.tickets.size());
    int hours = from(1, oneIn(2) ? 80 : 10);
    int what = random.nextInt(4);
    String of = " in hour " + model.hour + " of " + text;
    due.is("tear(" + jersey + ")" + of, room.tear(jersey), model.tear(jersey).size());
    due.is("patch(" + jersey + ")" + of, room.patch(jersey), model.patch(jersey));
    due.is("done(" + ticket + ")" + of, room.done(ticket), model.done(ticket));
    due.is("lasts(" + jersey + ")" + of, room.lasts(jersey), model.lasts(jersey));
    due.is("foresee(" + hours + ", " + what + ")" + of, room.foresee(hours, what), model.foresee(hours, what));
    due.is("advise(" + hours + ")" + of, room.advise(hours), model.advise(hours));
    due.isD("mean()" + of, room.mean(), model.mean());
    for (int i = 0; i < 8; i++) due.is("ticket(" + ticket + ", " + i + ")" + of, room.ticket(ticket, i), model.ticket(ticket, i));
    for (int i = 0; i < 4; i++) due.is("jersey(" + jersey + ", " + i + ")" + of, room.jersey(jersey, i), model.jersey(jersey, i));
  }
}
