/** Promises 13 to 19. */
public final class ReadsTest {
  public static void main(String[] args) {
    read();
    primary();
    serves();
    fence();
    recordOf();
    standbyOf();
    standbyOfEdges();
    slotOf();
    Due.end();
  }

  private static void read() {
    Due due = new Due("promise 13, read");
    FencedStandbys x = new FencedStandbys();
    Due.commitOne(x, 1, 10);
    Due.commitOne(x, 1, 11);
    x.ship(0, 3);
    x.tick(9);
    due.is("read(0, 1, 0): at the applied position, not at the fence", x.read(0, 1, 0), 10);
    due.is("read(0, 1, 3)", x.read(0, 1, 3), 10);
    due.is("read(0, 1, 4): too little", x.read(0, 1, 4), Due.IMPOSSIBLE);
    due.is("read(0, 1, 5): no position", x.read(0, 1, 5), Due.INVALID);
    due.is("read(0, 1, -1)", x.read(0, 1, -1), Due.INVALID);
    due.is("read(0, 24, 0)", x.read(0, 24, 0), Due.INVALID);
    due.is("read(0, -1, 0)", x.read(0, -1, 0), Due.INVALID);
    due.is("read(2, 1, 0)", x.read(2, 1, 0), Due.INVALID);
    due.is("read(-1, 1, 0)", x.read(-1, 1, 0), Due.INVALID);
    due.is("read(1, 1, 0)", x.read(1, 1, 0), 0);
    due.is("count(8): a read is no change", x.count(8), 4);
    x.promote(1);
    due.is("read(0, 1, 0) astray", x.read(0, 1, 0), Due.IMPOSSIBLE);
    due.is("read(0, 1, 1) astray, no position", x.read(0, 1, 1), Due.INVALID);
  }

  private static void primary() {
    Due due = new Due("promise 14, primary");
    FencedStandbys x = new FencedStandbys();
    Due.commitOne(x, 4, 40);
    x.open(0);
    x.open(2);
    due.is("primary(0, 4): no own put", x.primary(0, 4), 40);
    x.put(0, 4, 41);
    x.put(0, 4, 42);
    x.put(2, 4, 43);
    x.put(0, 5, 44);
    due.is("primary(0, 4): its last put", x.primary(0, 4), 42);
    due.is("primary(2, 4)", x.primary(2, 4), 43);
    due.is("primary(-1, 4)", x.primary(-1, 4), 40);
    due.is("primary(2, 5)", x.primary(2, 5), 0);
    x.commit(2);
    due.is("primary(0, 4) behind another's commit", x.primary(0, 4), 42);
    due.is("primary(-1, 4)", x.primary(-1, 4), 43);
    due.is("primary(2, 4) without transaction", x.primary(2, 4), Due.IMPOSSIBLE);
    due.is("primary(2, 24)", x.primary(2, 24), Due.INVALID);
    due.is("primary(-2, 4)", x.primary(-2, 4), Due.INVALID);
    due.is("primary(3, 4)", x.primary(3, 4), Due.INVALID);
    due.is("primary(-1, -1)", x.primary(-1, -1), Due.INVALID);
    due.is("primary(-1, 24)", x.primary(-1, 24), Due.INVALID);
    x.put(0, 4, 0);
    due.is("primary(0, 4): a put of 0", x.primary(0, 4), 0);
  }

  private static void serves() {
    Due due = new Due("promise 15, serves");
    FencedStandbys x = Due.withPuts(6);
    x.ship(0, 2);
    x.ship(1, 5);
    x.tick(9);
    due.is("serves(0): the one with more", x.serves(0), 1);
    due.is("serves(5)", x.serves(5), 1);
    due.is("serves(6)", x.serves(6), Due.NONE);
    due.is("serves(7)", x.serves(7), Due.INVALID);
    due.is("serves(-1)", x.serves(-1), Due.INVALID);
    x.ship(0, 3);
    x.tick(9);
    due.is("serves(5): two alike", x.serves(5), 0);
    x.ship(0, 1);
    x.tick(9);
    due.is("serves(0): the one with more", x.serves(0), 0);
    x.promote(1);
    due.is("serves(0): both are astray", x.serves(0), Due.NONE);
    x.rebuild(1);
    due.is("serves(0): the one that is not astray", x.serves(0), 1);
    x.rebuild(0);
    x.open(0);
    x.put(0, 1, 1);
    x.rebuild(0);
    due.is("serves(6): the other would see too little", x.serves(6), 0);
    due.is("serves(5)", x.serves(5), 0);
  }

  private static void fence() {
    Due due = new Due("promise 16, fence");
    FencedStandbys x = new FencedStandbys();
    due.is("fence(6)", x.fence(6), Due.NONE);
    x.open(0);
    x.open(1);
    x.put(0, 6, 1);
    x.put(1, 7, 1);
    due.is("fence(6): no commit yet", x.fence(6), Due.NONE);
    x.commit(0);
    x.commit(1);
    due.is("fence(6): not another's commit", x.fence(6), 3);
    due.is("fence(7)", x.fence(7), 4);
    Due.commitOne(x, 6, 2);
    due.is("fence(6): the last one", x.fence(6), 6);
    x.open(0);
    x.put(0, 6, 3);
    x.abort(0);
    due.is("fence(6): no abort", x.fence(6), 6);
    FencedStandbys late = new FencedStandbys();
    late.open(0);
    late.put(0, 0, 5);
    late.open(1);
    late.commit(1);
    late.commit(0);
    due.is("fence(0): the put is the first record", late.fence(0), 3);
    due.is("fence(24)", x.fence(24), Due.INVALID);
    due.is("fence(-1)", x.fence(-1), Due.INVALID);
    x.promote(0);
    due.is("fence(6) of a log that was cut", x.fence(6), Due.NONE);
  }

  private static void recordOf() {
    Due due = new Due("promise 17, recordOf");
    FencedStandbys x = new FencedStandbys();
    x.open(1);
    x.open(0);
    x.tick(3);
    x.put(0, 9, 90);
    x.tick(4);
    x.commit(0);
    x.tick(1);
    x.abort(1);
    int[][] want = {{0, 2, 9, 90, Due.tick(3)}, {1, 2, Due.NONE, Due.NONE, Due.tick(7)},
        {2, 1, Due.NONE, Due.NONE, Due.tick(8)}};
    for (int record = 1; record <= 3; record++) {
      for (int what = 0; what <= 4; what++) {
        due.is("recordOf(" + record + ", " + what + ")", x.recordOf(record, what), want[record - 1][what]);
      }
    }
    due.is("recordOf(4, 0)", x.recordOf(4, 0), Due.NONE);
    due.is("recordOf(101, 4)", x.recordOf(101, 4), Due.NONE);
    due.is("recordOf(max, 2)", x.recordOf(Integer.MAX_VALUE, 2), Due.NONE);
    due.is("recordOf(0, 0)", x.recordOf(0, 0), Due.INVALID);
    due.is("recordOf(min, 0)", x.recordOf(Integer.MIN_VALUE, 0), Due.INVALID);
    due.is("recordOf(1, 5)", x.recordOf(1, 5), Due.INVALID);
    due.is("recordOf(1, -1)", x.recordOf(1, -1), Due.INVALID);
    due.is("recordOf(9, 5): no such record", x.recordOf(9, 5), Due.INVALID);
    due.is("recordOf(100, 3)", Due.withPuts(100).recordOf(100, 3), 99);
  }

  private static void standbyOf() {
    Due due = new Due("promise 18, standbyOf");
    FencedStandbys x = new FencedStandbys();
    Due.commitOne(x, 1, 10);
    x.tick(1);
    Due.commitOne(x, 2, 20);
    x.tick(2);
    Due.commitOne(x, 1, 10);
    Due.commitOne(x, 3, 30);
    x.ship(1, 7);
    x.set(0, 1);
    x.tick(3);
    x.lose(1, 7);
    x.lose(1, 5);
    int[] want = {7, 3, 2, 5, 0, 5, 3, 5, 2};
    for (int what = 0; what < want.length; what++) {
      due.is("standbyOf(1, " + what + ")", x.standbyOf(1, what), want[what]);
    }
    due.is("standbyOf(0, 7): the first record is meant", x.standbyOf(0, 7), 6);
    due.is("standbyOf(0, 8)", x.standbyOf(0, 8), 3);
    due.is("standbyOf(0, 6)", x.standbyOf(0, 6), 4);
    due.is("standbyOf(0, 3)", x.standbyOf(0, 3), Due.NONE);
    int[][] wrong = {{2, 0}, {-1, 0}, {0, 9}, {0, -1}, {2, 3}, {Integer.MAX_VALUE, 0}, {0, Integer.MIN_VALUE}};
    for (int[] w : wrong) {
      due.is("standbyOf(" + w[0] + ", " + w[1] + ")", x.standbyOf(w[0], w[1]), Due.INVALID);
    }
    x.rebuild(1);
    int[] none = {8, 8, 0, Due.NONE, 0, 0, 0, Due.NONE, 0};
    for (int what = 0; what < none.length; what++) {
      due.is("standbyOf(1, " + what + ") rebuilt", x.standbyOf(1, what), none[what]);
    }
    x.promote(0);
    Due.commitOne(x, 1, 0);
    Due.commitOne(x, 2, 5);
    int[] astray = {0, 0, 0, Due.NONE, 1, 4, 2, 0, 1};
    for (int what = 0; what < astray.length; what++) {
      due.is("standbyOf(0, " + what + ") astray", x.standbyOf(0, what), astray[what]);
    }
  }

  private static void standbyOfEdges() {
    Due due = new Due("promise 18, standbyOf at its edges");
    FencedStandbys x = new FencedStandbys();
    x.open(0);
    x.put(0, 0, 5);
    due.is("standbyOf(0, 7): behind by one record", x.standbyOf(0, 7), 0);
    x.put(0, 23, 6);
    x.put(0, 12, 0);
    x.tick(4);
    due.is("standbyOf(0, 8): nothing is committed", x.standbyOf(0, 8), 0);
    due.is("standbyOf(0, 7)", x.standbyOf(0, 7), 4);
    x.commit(0);
    due.is("standbyOf(0, 8): the keys 0 and 23, and 12 is 0 still", x.standbyOf(0, 8), 2);
    x.rebuild(1);
    x.open(1);
    x.put(1, 0, 7);
    x.put(1, 0, 5);
    x.commit(1);
    due.is("standbyOf(1, 8): the same value once more", x.standbyOf(1, 8), 0);
    due.is("standbyOf(1, 6)", x.standbyOf(1, 6), 1);
    FencedStandbys full = Due.withPuts(100);
    for (int i = 0; i < 5; i++) {
      full.ship(1, 20);
    }
    full.lose(1, 100);
    due.is("standbyOf(1, 3)", full.standbyOf(1, 3), 100);
    full.set(0, 20);
    due.is("tick(9): up to the gap 100", full.tick(9), 99);
    due.is("lose(1, 100): a gap already", full.lose(1, 100), Due.IMPOSSIBLE);
    full.resend(1);
    due.is("standbyOf(1, 3) sent again", full.standbyOf(1, 3), Due.NONE);
    full.lose(1, 100);
    full.rebuild(1);
    due.is("standbyOf(1, 3) rebuilt", full.standbyOf(1, 3), Due.NONE);
  }

  private static void slotOf() {
    Due due = new Due("promise 19, slotOf");
    FencedStandbys x = new FencedStandbys();
    x.open(2);
    x.open(1);
    due.is("slotOf(1, 0)", x.slotOf(1, 0), 2);
    due.is("slotOf(1, 1)", x.slotOf(1, 1), 0);
    x.put(1, 3, 3);
    x.put(2, 3, 3);
    x.put(1, 3, 3);
    due.is("slotOf(1, 1)", x.slotOf(1, 1), 2);
    due.is("slotOf(2, 1)", x.slotOf(2, 1), 1);
    due.is("slotOf(0, 0)", x.slotOf(0, 0), Due.NONE);
    due.is("slotOf(0, 1)", x.slotOf(0, 1), Due.NONE);
    due.is("slotOf(0, 2)", x.slotOf(0, 2), Due.INVALID);
    due.is("slotOf(1, -1)", x.slotOf(1, -1), Due.INVALID);
    due.is("slotOf(3, 0)", x.slotOf(3, 0), Due.INVALID);
    due.is("slotOf(-1, 0)", x.slotOf(-1, 0), Due.INVALID);
    x.commit(1);
    due.is("slotOf(1, 1) behind the commit", x.slotOf(1, 1), Due.NONE);
  }
}
