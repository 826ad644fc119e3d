/** All that can be seen of an object, told as a text, by at most 280 calls that are no changes. */
final class Look {
  private static final int ENDS = 16;

  private final FencedStandbys x;
  private final StringBuilder seen = new StringBuilder();

  private Look(FencedStandbys x) {
    this.x = x;
  }

  /** Also the states in the history and the text. */
  static String at(FencedStandbys x) {
    Look look = new Look(x);
    look.add("history and text", x.count(8), x.count(9), x.fault(0), x.fault(1), x.fault(2));
    look.state();
    return look.seen.toString();
  }

  /** What a state of the history holds: everything but the history and the text. */
  static String atState(FencedStandbys x) {
    Look look = new Look(x);
    look.state();
    return look.seen.toString();
  }

  private void add(String name, int... answers) {
    seen.append(name);
    for (int answer : answers) {
      seen.append(' ').append(answer);
    }
    seen.append("; ");
  }

  private void state() {
    int size = x.count(0);
    add("counts", size, x.count(1), x.count(2), x.count(3), x.count(4), x.count(5), x.count(6), x.count(7));
    add("settings", x.count(20), x.count(21));
    add("serves", x.serves(0), x.serves(size));
    for (int slot = 0; slot < 3; slot++) {
      add("slot " + slot, x.slotOf(slot, 0), x.slotOf(slot, 1), x.primary(slot, 1));
    }
    standbys(size);
    for (int key = 0; key < 24; key++) {
      add("key " + key, x.primary(-1, key), x.fence(key));
    }
    records(size);
  }

  private void standbys(int size) {
    for (int standby = 0; standby < 2; standby++) {
      for (int what = 0; what <= 8; what++) {
        add("standby " + standby + " " + what, x.standbyOf(standby, what));
      }
      add("would be", x.waits(standby, size), x.wouldLose(standby), x.rateFor(standby, 99));
      add("reads", x.read(standby, 1, 0), x.read(standby, 2, 0));
    }
  }

  /** The records at both ends alone, as the document lets an object be asked 512 times. */
  private void records(int size) {
    for (int record = 1; record <= size; record++) {
      if (record <= ENDS || record > size - ENDS) {
        add("record " + record, x.recordOf(record, 0), x.recordOf(record, 1), x.recordOf(record, 2),
            x.recordOf(record, 3), x.recordOf(record, 4));
      }
    }
  }
}
