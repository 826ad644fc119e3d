/** Objects in states of many kinds, for calls that are refused. */
final class Made {
  private Made() {
  }

  static FencedStandbys fresh() {
    return new FencedStandbys();
  }

  /**
   * 7 records, the tick 5. The slot 0 is empty, the slots 1 and 2 have the transactions 2 and 4. The standby 0 has
   * received 6 records and applied 4, with the gap 5; the standby 1 has received 5 and applied 3, with the gap 4.
   */
  static FencedStandbys busy() {
    FencedStandbys x = new FencedStandbys();
    x.open(0);
    x.put(0, 1, 10);
    x.put(0, 2, 20);
    x.commit(0);
    x.tick(3);
    x.open(1);
    x.put(1, 1, 11);
    x.open(0);
    x.put(0, 3, 30);
    x.abort(0);
    x.ship(0, 6);
    x.ship(1, 5);
    x.tick(1);
    x.open(2);
    x.put(2, 4, 40);
    Due.typeAll(x, "t1;o0;");
    x.lose(0, 5);
    x.lose(1, 4);
    x.set(0, 3);
    x.tick(1);
    return x;
  }

  /** The standby 0 is astray at 4 of 5 records; the slot 0 has the transaction 5; the standby 1 has the gap 4. */
  static FencedStandbys withOneAstray() {
    FencedStandbys x = busy();
    x.promote(0);
    x.open(0);
    x.put(0, 5, 50);
    return x;
  }

  /** Both are astray at 3 of 4 records. */
  static FencedStandbys withBothAstray() {
    FencedStandbys x = busy();
    x.promote(0);
    x.promote(1);
    x.open(0);
    x.put(0, 5, 50);
    return x;
  }

  /** 100 records, all puts of the transaction 2 in the slot 0; the slot 1 has the transaction 1, without puts. */
  static FencedStandbys full() {
    FencedStandbys x = new FencedStandbys();
    x.open(1);
    x.open(0);
    for (int i = 0; i < 100; i++) {
      x.put(0, i % 24, i);
    }
    return x;
  }

  /** The same, and both standbys are astray without any record. */
  static FencedStandbys fullWithBothAstray() {
    FencedStandbys x = new FencedStandbys();
    x.open(0);
    x.put(0, 0, 0);
    x.promote(0);
    x.open(0);
    x.put(0, 0, 0);
    x.promote(1);
    x.open(1);
    x.open(0);
    for (int i = 0; i < 100; i++) {
      x.put(0, i % 24, i);
    }
    return x;
  }

  static FencedStandbys shipped(FencedStandbys x, int standby) {
    while (x.ship(standby, 20) == 20) {
      continue;
    }
    return x;
  }
}
