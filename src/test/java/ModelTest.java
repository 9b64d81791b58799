/** Compares the class with the model, in rooms and calls made by chance, always the same ones. */
public final class ModelTest {
  private static final int ROOMS = 1000;
  private static final int BUNDLES = 3;
  // No more, as an object is used for at most 512 calls: a bundle takes up to 105, a turn 29.
  private static final int TURNS = 2;
  private static final Due due = new Due();
  private static final Bundles bundles = new Bundles(751);

  public static void main(String[] args) {
    int done = 0;
    int told = 0;
    for (int i = 0; i < ROOMS; i++) {
      DarnRoom room = new DarnRoom();
      bundles.next(0, "");
      for (int bundle = 0; bundle < BUNDLES; bundle++) {
        if (bundle > 0) bundles.next(bundles.model.hour, bundles.model.paper);
        taught(room);
        for (int turn = 0; turn < TURNS; turn++) {
          bundles.work(due, room, 5);
          bundles.look(due, room);
        }
        done += bundles.model.thatAre(2);
        told += bundles.model.tickets.size();
      }
    }
    due.holds("that more than half of the " + told + " tickets are done, not " + done, done > told / 2);
    due.end("ModelTest");
  }

  private static void taught(DarnRoom room) {
    due.is("teach() of " + bundles.text, Due.teach(room, bundles.text), 0);
    due.is("errorAt() behind " + bundles.text, room.errorAt(), -1);
    due.is("digest() of " + bundles.text, room.digest(), bundles.model.digest());
  }
}
