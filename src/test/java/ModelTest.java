import java.util.Random;

/** Runs of calls from fixed seeds, each of at most 512 calls, compared with the model of the document. */
public final class ModelTest {
  private static final int RUNS = 1500;
  private static final int CALLS = 512;
  private static final int[] FAR = {Integer.MIN_VALUE, -1000, -2, 25, 101, 127, 1000, Integer.MAX_VALUE};

  private final Due due;
  private final Random random;
  private final Model model = new Model();
  private final FencedStandbys program = new FencedStandbys();
  private final int wildness;
  private final int haste;
  /** A run that fills the log: without texts and promotions, and with many puts. */
  private final boolean isLong;
  private int calls = 0;

  private ModelTest(int seed) {
    due = new Due("run of the seed " + seed);
    random = new Random(seed);
    wildness = seed % 3 == 0 ? 10 : 60;
    haste = 4 + seed % 60;
    isLong = seed % 4 == 1;
  }

  public static void main(String[] args) {
    for (int seed = 0; seed < RUNS; seed++) {
      new ModelTest(seed).run();
    }
    Due.end();
  }

  private void run() {
    while (calls < CALLS) {
      int kind = random.nextInt(isLong ? 90 : 100);
      if (kind < (isLong ? 70 : 50)) {
        changeByChance();
      } else if (kind < 90) {
        askByChance();
      } else if (kind < 94) {
        typeByChance();
      } else if (kind < 97) {
        is("play()", program.play(), model.play());
      } else {
        is("undo()", program.undo(), model.undo());
      }
    }
  }

  private void is(String call, int got, int want) {
    calls++;
    if (calls <= CALLS) {
      due.is("call " + calls + ", " + call, got, want);
    }
  }

  /** A number of the range, now and then one at or beyond its ends. */
  private int number(int low, int high) {
    int chance = random.nextInt(wildness);
    if (chance == 0) {
      return FAR[random.nextInt(FAR.length)];
    }
    if (chance == 1) {
      return random.nextBoolean() ? low - 1 : high + 1;
    }
    if (chance == 2) {
      return random.nextBoolean() ? low : high;
    }
    return low + random.nextInt(high - low + 1);
  }

  private int position() {
    return number(0, model.count(0));
  }

  private void changeByChance() {
    int slot = number(0, 2);
    int standby = number(0, 1);
    int key = number(0, random.nextBoolean() ? 3 : 23);
    int value = number(0, random.nextBoolean() ? 2 : 999);
    int chance = random.nextInt(isLong ? 70 : 100);
    if (chance < 15) {
      is("open(" + slot + ")", program.open(slot), model.changeNow('o', slot, 0, 0));
    } else if (chance < 40) {
      is("put(" + slot + ", " + key + ", " + value + ")", program.put(slot, key, value), model.changeNow('p', slot, key, value));
    } else if (chance < 50) {
      is("commit(" + slot + ")", program.commit(slot), model.changeNow('c', slot, 0, 0));
    } else if (chance < 54) {
      is("abort(" + slot + ")", program.abort(slot), model.changeNow('a', slot, 0, 0));
    } else {
      changeStandbys(standby, random.nextInt(100));
    }
  }

  private void changeStandbys(int standby, int chance) {
    if (chance < 30) {
      int many = number(1, random.nextBoolean() ? 4 : 20);
      is("ship(" + standby + ", " + many + ")", program.ship(standby, many), model.changeNow('s', standby, many, 0));
    } else if (chance < 50) {
      int record = number(1, Math.max(1, model.count(0)));
      is("lose(" + standby + ", " + record + ")", program.lose(standby, record), model.changeNow('l', standby, record, 0));
    } else if (chance < 60) {
      is("resend(" + standby + ")", program.resend(standby), model.changeNow('r', standby, 0, 0));
    } else if (chance < 82) {
      int ticks = number(1, random.nextInt(haste) == 0 ? 99 : 3);
      is("tick(" + ticks + ")", program.tick(ticks), model.changeNow('t', ticks, 0, 0));
    } else if (chance < 86) {
      boolean now = !isLong && random.nextInt(haste) < 4;
      int which = now ? standby : 2;
      is("promote(" + which + ")", program.promote(which), model.changeNow('P', which, 0, 0));
    } else if (chance < 92) {
      is("rebuild(" + standby + ")", program.rebuild(standby), model.changeNow('R', standby, 0, 0));
    } else {
      int what = number(0, 1);
      int value = number(1 - Math.min(1, Math.max(0, what)), random.nextBoolean() ? 5 : 20);
      is("set(" + what + ", " + value + ")", program.set(what, value), model.changeNow('S', what, value, 0));
    }
  }

  private void askByChance() {
    int standby = number(0, 1);
    int slot = number(0, 2);
    int key = number(0, random.nextBoolean() ? 3 : 23);
    switch (random.nextInt(12)) {
      case 0: {
        int fence = random.nextBoolean() ? position() : 0;
        is("read(" + standby + ", " + key + ", " + fence + ")", program.read(standby, key, fence), model.read(standby, key, fence));
        break;
      }
      case 1: {
        int by = random.nextBoolean() ? -1 : slot;
        is("primary(" + by + ", " + key + ")", program.primary(by, key), model.primary(by, key));
        break;
      }
      case 2: {
        int fence = position();
        is("serves(" + fence + ")", program.serves(fence), model.serves(fence));
        break;
      }
      case 3:
        is("fence(" + key + ")", program.fence(key), model.fence(key));
        break;
      case 4: {
        int record = number(1, Math.max(1, model.count(0)));
        int what = number(0, 4);
        is("recordOf(" + record + ", " + what + ")", program.recordOf(record, what), model.recordOf(record, what));
        break;
      }
      case 5: {
        int what = number(0, 1);
        is("slotOf(" + slot + ", " + what + ")", program.slotOf(slot, what), model.slotOf(slot, what));
        break;
      }
      case 6: {
        int fence = position();
        is("waits(" + standby + ", " + fence + ")", program.waits(standby, fence), model.waits(standby, fence));
        break;
      }
      case 7:
        is("wouldLose(" + standby + ")", program.wouldLose(standby), model.wouldLose(standby));
        break;
      case 8: {
        int ticks = number(1, random.nextBoolean() ? 6 : 99);
        is("rateFor(" + standby + ", " + ticks + ")", program.rateFor(standby, ticks), model.rateFor(standby, ticks));
        break;
      }
      case 9: {
        int what = random.nextInt(4) == 0 ? number(10, 22) : number(0, 9);
        is("count(" + what + ")", program.count(what), model.count(what));
        break;
      }
      case 10: {
        int what = number(0, 2);
        is("fault(" + what + ")", program.fault(what), model.fault(what));
        break;
      }
      default: {
        int what = number(0, 8);
        is("standbyOf(" + standby + ", " + what + ")", program.standbyOf(standby, what), model.standbyOf(standby, what));
      }
    }
  }

  private void typeByChance() {
    if (random.nextInt(3) == 0) {
      is("clearText()", program.clearText(), model.clearText());
    }
    if (random.nextInt(20) == 0 && calls < CALLS) {
      int character = number(32, 126);
      is("type(" + character + ")", program.type(character), model.type(character));
    }
    StringBuilder order = new StringBuilder(orderByChance());
    if (random.nextInt(12) == 0) {
      order.setCharAt(random.nextInt(order.length()), "ocapst0123456789,=; ".charAt(random.nextInt(20)));
    }
    if (random.nextInt(20) == 0) {
      order.setLength(random.nextInt(order.length()));
    }
    for (int i = 0; i < order.length() && calls < CALLS; i++) {
      int character = order.charAt(i);
      is("type(" + character + ")", program.type(character), model.type(character));
    }
  }

  private String orderByChance() {
    int wild = random.nextInt(8) == 0 ? 200 : 0;
    String[] slot = {"0", "1", "2", "00", "002", "3", "0001"};
    String by = slot[random.nextInt(wild > 0 ? slot.length : 5)];
    switch (random.nextInt(7)) {
      case 0:
        return "o" + by + ";";
      case 1:
        return "c" + by + ";";
      case 2:
        return "a" + by + ";";
      case 3:
      case 4:
        return "p" + by + "," + random.nextInt(24 + wild) + "=" + random.nextInt(1000 + wild) + ";";
      case 5:
        return "s" + random.nextInt(2) + "," + (1 + random.nextInt(20 + wild)) + ";";
      default:
        return "t" + (random.nextInt(5) + wild) + ";";
    }
  }
}
