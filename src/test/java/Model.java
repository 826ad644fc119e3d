import java.util.ArrayDeque;
import java.util.ArrayList;
import java.util.Deque;
import java.util.List;
import java.util.TreeSet;
import java.util.regex.Matcher;
import java.util.regex.Pattern;

/** The document once more, told in another way (lists, sets, patterns), to compare the program with. */
final class Model {
  static final int INVALID = Due.INVALID;
  static final int IMPOSSIBLE = Due.IMPOSSIBLE;
  static final int LIMIT = Due.LIMIT;
  static final int NONE = Due.NONE;

  record Entry(char kind, int transaction, int key, int value, int tick) {}

  static final class Follower {
    int received;
    int applied;
    boolean astray;
    TreeSet<Integer> gaps = new TreeSet<>();

    Follower copy() {
      Follower f = new Follower();
      f.received = received;
      f.applied = applied;
      f.astray = astray;
      f.gaps = new TreeSet<>(gaps);
      return f;
    }
  }

  static final class World {
    List<Entry> log = new ArrayList<>();
    Follower[] followers = {new Follower(), new Follower()};
    Integer[] slots = new Integer[3];
    int[] settings = {4, 2};
    int tick = Due.tick(0);
    int timeline = 1;
    int opened;
    int commitsLost;
    int lostOnTheWay;
    int appliedInTicks;

    World copy() {
      World w = new World();
      w.log = new ArrayList<>(log);
      w.followers = new Follower[] {followers[0].copy(), followers[1].copy()};
      w.slots = slots.clone();
      w.settings = settings.clone();
      w.tick = tick;
      w.timeline = timeline;
      w.opened = opened;
      w.commitsLost = commitsLost;
      w.lostOnTheWay = lostOnTheWay;
      w.appliedInTicks = appliedInTicks;
      return w;
    }

    int commitsIn(int from, int to) {
      return (int) log.subList(from, to).stream().filter(e -> e.kind == 'c').count();
    }

    int[] valuesAt(int position) {
      int[] values = new int[24];
      for (Entry commit : log.subList(0, position)) {
        if (commit.kind == 'c') {
          for (Entry put : log) {
            if (put.kind == 'p' && put.transaction == commit.transaction) {
              values[put.key] = put.value;
            }
          }
        }
      }
      return values;
    }

    void passOne() {
      tick++;
      for (Follower f : followers) {
        for (int i = 0; i < settings[0] && !f.astray; i++) {
          boolean can = f.applied < f.received && !f.gaps.contains(f.applied + 1)
              && tick - log.get(f.applied).tick >= settings[1];
          if (!can) {
            break;
          }
          f.applied++;
          appliedInTicks++;
        }
      }
    }
  }

  World world = new World();
  final Deque<World> history = new ArrayDeque<>();
  final StringBuilder text = new StringBuilder();

  private static boolean out(int n, int low, int high) {
    return n < low || n > high;
  }

  /** Does a change by its letter on a world: its answer, or the error code with the world as it was. */
  static int change(World w, char call, int a, int b, int c) {
    switch (call) {
      case 'o': return open(w, a);
      case 'p': return put(w, a, b, c);
      case 'c': case 'a': return end(w, call, a);
      case 's': return ship(w, a, b);
      case 'l': return lose(w, a, b);
      case 'r': return resend(w, a);
      case 't': return tick(w, a);
      case 'P': return promote(w, a);
      case 'R': return rebuild(w, a);
      default: return set(w, a, b);
    }
  }

  int changeNow(char call, int a, int b, int c) {
    World before = world.copy();
    int answer = change(world, call, a, b, c);
    if (answer >= 0) {
      remember(before);
    }
    return answer;
  }

  private void remember(World before) {
    history.addLast(before);
    if (history.size() == 5) {
      history.removeFirst();
    }
  }

  private static int open(World w, int slot) {
    if (out(slot, 0, 2)) return INVALID;
    if (w.slots[slot] != null) return IMPOSSIBLE;
    w.slots[slot] = ++w.opened;
    return w.opened;
  }

  private static int put(World w, int slot, int key, int value) {
    if (out(slot, 0, 2) || out(key, 0, 23) || out(value, 0, 999)) return INVALID;
    if (w.slots[slot] == null) return IMPOSSIBLE;
    if (w.log.size() == 100) return LIMIT;
    w.log.add(new Entry('p', w.slots[slot], key, value, w.tick));
    return w.log.size();
  }

  private static int end(World w, char kind, int slot) {
    if (out(slot, 0, 2)) return INVALID;
    if (w.slots[slot] == null) return IMPOSSIBLE;
    if (w.log.size() == 100) return LIMIT;
    w.log.add(new Entry(kind, w.slots[slot], -1, -1, w.tick));
    w.slots[slot] = null;
    return w.log.size();
  }

  private static int ship(World w, int standby, int many) {
    if (out(standby, 0, 1) || out(many, 1, 20)) return INVALID;
    Follower f = w.followers[standby];
    if (f.astray) return IMPOSSIBLE;
    int was = f.received;
    while (f.received < w.log.size() && f.received < was + many) f.received++;
    return f.received - was;
  }

  private static int lose(World w, int standby, int record) {
    if (out(standby, 0, 1) || record < 1) return INVALID;
    Follower f = w.followers[standby];
    if (f.astray || out(record, f.applied + 1, f.received) || !f.gaps.add(record)) return IMPOSSIBLE;
    w.lostOnTheWay++;
    return f.gaps.size();
  }

  private static int resend(World w, int standby) {
    if (out(standby, 0, 1)) return INVALID;
    Follower f = w.followers[standby];
    if (f.astray) return IMPOSSIBLE;
    int were = f.gaps.size();
    f.gaps.clear();
    return were;
  }

  private static int tick(World w, int ticks) {
    if (out(ticks, 1, 99)) return INVALID;
    int was = w.appliedInTicks;
    for (int i = 0; i < ticks; i++) w.passOne();
    return w.appliedInTicks - was;
  }

  private static int promote(World w, int standby) {
    if (out(standby, 0, 1)) return INVALID;
    Follower f = w.followers[standby];
    if (f.astray) return IMPOSSIBLE;
    int end = f.applied;
    int lost = w.commitsIn(end, w.log.size());
    Follower old = new Follower();
    old.received = end;
    old.applied = end;
    old.astray = end < w.log.size();
    w.followers[standby] = old;
    Follower other = w.followers[1 - standby];
    other.received = Math.min(end, other.received);
    other.gaps.removeIf(gap -> gap > end);
    if (other.applied > end) {
      other.astray = true;
      other.applied = end;
    }
    w.log.subList(end, w.log.size()).clear();
    w.slots = new Integer[3];
    w.timeline++;
    w.commitsLost += lost;
    return lost;
  }

  private static int rebuild(World w, int standby) {
    if (out(standby, 0, 1)) return INVALID;
    Follower f = new Follower();
    f.received = w.log.size();
    f.applied = w.log.size();
    w.followers[standby] = f;
    return f.applied;
  }

  private static int set(World w, int what, int value) {
    if (out(what, 0, 1) || out(value, 1 - what, 20)) return INVALID;
    int was = w.settings[what];
    w.settings[what] = value;
    return was;
  }

  int read(int standby, int key, int fence) {
    if (out(standby, 0, 1) || out(key, 0, 23) || out(fence, 0, world.log.size())) return INVALID;
    Follower f = world.followers[standby];
    if (f.astray || f.applied < fence) return IMPOSSIBLE;
    return world.valuesAt(f.applied)[key];
  }

  int primary(int slot, int key) {
    if (out(slot, -1, 2) || out(key, 0, 23)) return INVALID;
    if (slot >= 0 && world.slots[slot] == null) return IMPOSSIBLE;
    int value = world.valuesAt(world.log.size())[key];
    for (Entry e : world.log) {
      if (slot >= 0 && e.kind == 'p' && e.transaction == world.slots[slot] && e.key == key) value = e.value;
    }
    return value;
  }

  int serves(int fence) {
    if (out(fence, 0, world.log.size())) return INVALID;
    int best = NONE;
    for (int i = 0; i < 2; i++) {
      Follower f = world.followers[i];
      boolean can = !f.astray && f.applied >= fence;
      if (can && (best == NONE || f.applied > world.followers[best].applied)) best = i;
    }
    return best;
  }

  int fence(int key) {
    if (out(key, 0, 23)) return INVALID;
    int last = NONE;
    for (int i = 0; i < world.log.size(); i++) {
      Entry e = world.log.get(i);
      boolean puts = world.log.stream().anyMatch(p -> p.kind == 'p' && p.transaction == e.transaction && p.key == key);
      if (e.kind == 'c' && puts) last = i + 1;
    }
    return last;
  }

  int recordOf(int record, int what) {
    if (record < 1 || out(what, 0, 4)) return INVALID;
    if (record > world.log.size()) return NONE;
    Entry e = world.log.get(record - 1);
    if (e.kind != 'p' && (what == 2 || what == 3)) return NONE;
    return new int[] {"pca".indexOf(e.kind), e.transaction, e.key, e.value, e.tick}[what];
  }

  int standbyOf(int standby, int what) {
    if (out(standby, 0, 1) || out(what, 0, 8)) return INVALID;
    Follower f = world.followers[standby];
    int size = world.log.size();
    int[] there = world.valuesAt(f.applied);
    int[] atEnd = world.valuesAt(size);
    int differ = 0;
    for (int key = 0; key < 24; key++) differ += there[key] == atEnd[key] ? 0 : 1;
    int lowest = f.gaps.isEmpty() ? NONE : f.gaps.first();
    int ago = f.applied == size ? NONE : world.tick - world.log.get(f.applied).tick;
    return new int[] {f.received, f.applied, f.gaps.size(), lowest, f.astray ? 1 : 0, size - f.applied,
        world.commitsIn(f.applied, size), ago, differ}[what];
  }

  int slotOf(int slot, int what) {
    if (out(slot, 0, 2) || out(what, 0, 1)) return INVALID;
    Integer transaction = world.slots[slot];
    if (transaction == null) return NONE;
    long puts = world.log.stream().filter(e -> e.kind == 'p' && e.transaction == transaction).count();
    return what == 0 ? transaction : (int) puts;
  }

  int waits(int standby, int fence) {
    if (out(standby, 0, 1) || out(fence, 0, world.log.size())) return INVALID;
    if (world.followers[standby].astray) return IMPOSSIBLE;
    World w = world.copy();
    for (int ticks = 0; ticks <= 200; ticks++) {
      if (w.followers[standby].applied >= fence) return ticks;
      w.passOne();
    }
    return NONE;
  }

  int wouldLose(int standby) {
    if (out(standby, 0, 1)) return INVALID;
    return promote(world.copy(), standby);
  }

  int rateFor(int standby, int ticks) {
    if (out(standby, 0, 1) || out(ticks, 1, 99)) return INVALID;
    Follower now = world.followers[standby];
    if (now.astray) return IMPOSSIBLE;
    int target = now.gaps.isEmpty() ? now.received : now.gaps.first() - 1;
    for (int rate = 1; rate <= 20; rate++) {
      World w = world.copy();
      w.settings[0] = rate;
      tick(w, ticks);
      if (w.followers[standby].applied == target) return rate;
    }
    return NONE;
  }

  int count(int what) {
    World w = world;
    switch (what) {
      case 0: return w.log.size();
      case 1: return w.tick;
      case 2: return w.timeline;
      case 3: return w.opened;
      case 4: return w.commitsIn(0, w.log.size());
      case 5: return w.commitsLost;
      case 6: return w.lostOnTheWay;
      case 7: return w.appliedInTicks;
      case 8: return history.size();
      case 9: return text.length();
      case 20: case 21: return w.settings[what - 20];
      default: return INVALID;
    }
  }

  int undo() {
    if (history.isEmpty()) return IMPOSSIBLE;
    world = history.removeLast();
    return history.size();
  }

  int type(int character) {
    if (out(character, 32, 126)) return INVALID;
    if (text.length() == 60) return LIMIT;
    text.append((char) character);
    return text.length();
  }

  int clearText() {
    int length = text.length();
    text.setLength(0);
    return length;
  }

  private static final Pattern ORDER =
      Pattern.compile("([oca])(\\d{1,3});|(p)(\\d{1,3}),(\\d{1,3})=(\\d{1,3});|(s)(\\d{1,3}),(\\d{1,3});|(t)(\\d{1,3});");

  /** Does the orders on a world: null, or position, reason and cause of the fault; the last place counts the orders. */
  private int[] doText(World w) {
    int at = 0;
    int orders = 0;
    Matcher matcher = ORDER.matcher(text);
    while (at < text.length()) {
      matcher.region(at, text.length());
      if (!matcher.lookingAt()) {
        return new int[] {at, 1, breaksOff(text.substring(at)), orders};
      }
      int[] numbers = new int[3];
      int many = 0;
      for (int group = 1; group <= matcher.groupCount(); group++) {
        String part = matcher.group(group);
        if (part != null && Character.isDigit(part.charAt(0))) numbers[many++] = Integer.parseInt(part);
      }
      int answer = change(w, text.charAt(at), numbers[0], numbers[1], numbers[2]);
      if (answer < 0) {
        return new int[] {at, 2, answer, orders};
      }
      at = matcher.end();
      orders++;
    }
    return new int[] {-1, 0, 0, orders};
  }

  /** The longest head of it that some order can begin with, tried by adding every possible tail. */
  private static int breaksOff(String rest) {
    String[] tails = {"", "0", "0;", "0,0;", "0,0=0;", "0=0;", ";", ",0;", ",0=0;", "=0;"};
    int longest = 0;
    for (int length = 1; length <= rest.length(); length++) {
      for (String tail : tails) {
        if (ORDER.matcher(rest.substring(0, length) + tail).matches()) longest = length;
      }
    }
    return longest;
  }

  int fault(int what) {
    if (out(what, 0, 2)) return INVALID;
    int[] fault = doText(world.copy());
    return fault[1] == 0 ? NONE : fault[what];
  }

  int play() {
    World done = world.copy();
    int[] fault = doText(done);
    if (fault[1] != 0) return IMPOSSIBLE;
    remember(world);
    world = done;
    return fault[3];
  }
}
