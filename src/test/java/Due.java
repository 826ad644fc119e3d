/** Compares answers with those that are due, and ends the test with exit code 1 if one was wrong. */
final class Due {
  static final int INVALID = -1000001;
  static final int IMPOSSIBLE = -1000002;
  static final int LIMIT = -1000003;
  static final int NONE = -1000004;

  private static final int FIRST_TICK = new FencedStandbys().count(1);

  private final String promise;
  private int compared = 0;
  private static int wrong = 0;

  Due(String promise) {
    this.promise = promise;
  }

  /** For a test of one sentence, or of a part of one, in the document's own words. */
  Due(String section, String sentence) {
    this(section + ", \"" + sentence + "\"");
  }

  void is(String call, long got, long want) {
    compared++;
    if (got != want) {
      wrong++;
      System.out.println(promise + ": " + call + " (comparison " + compared + ") answered " + got + ", due is " + want);
    }
  }

  void same(String what, String got, String want) {
    compared++;
    if (!got.equals(want)) {
      wrong++;
      System.out.println(promise + ": " + what + " (comparison " + compared + ")\n  is     " + got + "\n  due is " + want);
    }
  }

  static void end() {
    System.out.println(wrong == 0 ? "all answers are as due" : wrong + " answers are not as due");
    if (wrong != 0) {
      System.exit(1);
    }
  }

  /** The tick behind so many ticks of an object, told from the first one, for which the document names no number. */
  static int tick(int ticks) {
    return FIRST_TICK + ticks;
  }

  static FencedStandbys withText(String text) {
    FencedStandbys x = new FencedStandbys();
    typeAll(x, text);
    return x;
  }

  static void typeAll(FencedStandbys x, String text) {
    x.clearText();
    for (int i = 0; i < text.length(); i++) {
      x.type(text.charAt(i));
    }
  }

  /** One transaction by the slot 0 that puts one value: two records. */
  static int commitOne(FencedStandbys x, int key, int value) {
    x.open(0);
    x.put(0, key, value);
    return x.commit(0);
  }

  /** A store whose log has so many puts of one open transaction, in the slot 0. */
  static FencedStandbys withPuts(int many) {
    FencedStandbys x = new FencedStandbys();
    x.open(0);
    for (int i = 0; i < many; i++) {
      x.put(0, i % 24, i);
    }
    return x;
  }
}
