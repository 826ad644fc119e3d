import java.util.function.Supplier;
import java.util.function.ToIntBiFunction;
import java.util.function.ToIntFunction;

/** Calls that are due to be refused: each answers its error code and changes nothing. */
final class Refusal {
  private Refusal() {
  }

  /** Compares with an object that was made alike and not called, also in all states of the history. */
  static void is(Due due, String call, Supplier<FencedStandbys> made, ToIntFunction<FencedStandbys> refused, int want) {
    for (int back = 0; back <= 5; back++) {
      FencedStandbys x = made.get();
      FencedStandbys twin = made.get();
      due.is(call, refused.applyAsInt(x), want);
      for (int i = 0; i < back; i++) {
        due.is(call + ", then undo()", x.undo(), twin.undo());
      }
      due.same(call + ", then undo() " + back + " times: what is seen", Look.at(x), Look.at(twin));
    }
  }

  /** Numbers just beside a range and far from it, and those that a byte or a char would wrap around into it. */
  static void beside(Due due, String call, int low, int high, Supplier<FencedStandbys> made,
      ToIntBiFunction<FencedStandbys, Integer> by, int want) {
    below(due, call, low, made, by, want);
    for (int number : new int[] {high + 1, high + 2, low + 256, low + 65536, Integer.MAX_VALUE}) {
      is(due, call + " by " + number, made, x -> by.applyAsInt(x, number), want);
    }
  }

  static void below(Due due, String call, int low, Supplier<FencedStandbys> made,
      ToIntBiFunction<FencedStandbys, Integer> by, int want) {
    for (int number : new int[] {low - 1, low - 2, low - 256, low - 65536, Integer.MIN_VALUE, Integer.MIN_VALUE + low}) {
      is(due, call + " by " + number, made, x -> by.applyAsInt(x, number), want);
    }
  }
}
