import java.util.ArrayList;
import java.util.HashMap;
import java.util.List;
import java.util.Map;

/**
 * The document told a second time, slowly and by other means: a point is held as its number n of
 * [n]G (all points in use are such multiples), and the tree, the revealed nullifiers and what the
 * keys find are worked out anew from the list of blocks at each question.
 */
final class Model {
  static final int ORDER = 2473;
  static final int FIELD = 10009;
  private static final long[][] POINTS = pointsOfG();
  private static final Map<Long, Integer> NUMBER = numbersOfPoints();
  static final int V = numberOf(592, 1212);
  static final int R = numberOf(5529, 7488);
  static final int A = numberOf(3794, 270);
  static final int B = numberOf(1113, 7823);

  static final class Spend {
    int secret, leaf, v, t, w, anchor, nullifier;
    int[] path;
  }

  static final class Output {
    int p, v, t, w, commitment, e, a, b;
  }

  static final class Draft {
    final List<Spend> spends = new ArrayList<>();
    final List<Output> outputs = new ArrayList<>();
    int balance, turn;
  }

  private final List<Integer> secrets = new ArrayList<>();
  private final List<Draft> chain = new ArrayList<>();
  private Draft draft = new Draft();

  // The curve.

  private static long over(long above, long below) {
    long result = above;
    for (int e = FIELD - 2; e > 0; e--) {
      result = result * below % FIELD;
    }
    return Math.floorMod(result, (long) FIELD);
  }

  static long[] add(long[] p, long[] q) {
    long x = p[0], y = p[1], u = q[0], w = q[1];
    long k = 56 * x % FIELD * u % FIELD * y % FIELD * w % FIELD;
    return new long[] {over((x * w + y * u) % FIELD, 1 + k), over((y * w + x * u) % FIELD, FIELD + 1 - k)};
  }

  static boolean onCurve(long x, long y) {
    return Math.floorMod(y * y - x * x - 1 - 56 * x * x % FIELD * y % FIELD * y, (long) FIELD) == 0;
  }

  private static long[][] pointsOfG() {
    long[][] points = new long[ORDER][];
    points[0] = new long[] {0, 1};
    for (int n = 1; n < ORDER; n++) {
      points[n] = add(points[n - 1], new long[] {5090, 9579});
    }
    return points;
  }

  private static Map<Long, Integer> numbersOfPoints() {
    Map<Long, Integer> numbers = new HashMap<>();
    for (int n = 0; n < ORDER; n++) {
      numbers.put(POINTS[n][0] * FIELD + POINTS[n][1], n);
    }
    return numbers;
  }

  static int numberOf(int x, int y) {
    return NUMBER.get((long) x * FIELD + y);
  }

  static int mod(long n) {
    return (int) Math.floorMod(n, (long) ORDER);
  }

  static int x(long n) {
    return (int) POINTS[mod(n)][0];
  }

  static int y(long n) {
    return (int) POINTS[mod(n)][1];
  }

  static int commitment(int p, int v, int t) {
    return x((long) v * V + (long) t * R + p);
  }

  static int hash(int a, int b, int level) {
    return x((long) a * A + (long) b * B + level);
  }

  static int nullifier(int secret, int leaf) {
    return x((long) secret * A + (long) (leaf + 1) * B);
  }

  /** The turn by which covers balance although the values miss by so much. */
  static int turnFor(int missing) {
    for (int turn = 0; turn < ORDER; turn++) {
      if (mod((long) turn * R - (long) missing * V) == 0) {
        return turn;
      }
    }
    throw new IllegalStateException();
  }

  // The state, from the list of blocks.

  private List<Output> filled(int blockCount) {
    List<Output> all = new ArrayList<>();
    for (Draft block : chain.subList(0, blockCount)) {
      all.addAll(block.outputs);
    }
    return all;
  }

  private static int nodeOf(List<Output> filled, int level, int k) {
    if (level == 0) {
      return k < filled.size() ? filled.get(k).commitment : 0;
    }
    return hash(nodeOf(filled, level - 1, 2 * k), nodeOf(filled, level - 1, 2 * k + 1), level);
  }

  private int[] found(int k, int i) {
    List<Output> filled = filled(chain.size());
    if (k < 0 || k >= secrets.size() || i < 0 || i >= filled.size()) {
      return null;
    }
    Output out = filled.get(i);
    int s = secrets.get(k);
    int v = Math.floorMod(out.a - x((long) s * out.e), 1000);
    int t = mod(out.b - y((long) s * out.e));
    return commitment(s, v, t) == out.commitment ? new int[] {v, t} : null;
  }

  private static boolean in(int n, int from, int to) {
    return n >= from && n <= to;
  }

  // The face.

  int key(int s) {
    if (secrets.size() >= 4 || !in(s, 1, ORDER - 1)) {
      return -1;
    }
    secrets.add(s);
    return secrets.size() - 1;
  }

  int clear() {
    draft = new Draft();
    return 0;
  }

  int spend(int k, int i, int w) {
    int[] known = found(k, i);
    if (known == null || draft.spends.size() >= 2 || !in(w, 0, ORDER - 1)) {
      return 0;
    }
    Spend made = new Spend();
    made.secret = secrets.get(k);
    made.leaf = i;
    made.v = known[0];
    made.t = known[1];
    made.w = w;
    made.anchor = node(4, 0);
    made.path = new int[] {node(0, i ^ 1), node(1, i / 2 ^ 1), node(2, i / 4 ^ 1), node(3, i / 8 ^ 1)};
    made.nullifier = nullifier(made.secret, i);
    draft.spends.add(made);
    return 1;
  }

  int output(int k, int v, int t, int e, int w) {
    boolean scalars = in(t, 0, ORDER - 1) && in(e, 0, ORDER - 1) && in(w, 0, ORDER - 1);
    if (!in(k, 0, secrets.size() - 1) || !in(v, 0, 999) || !scalars || draft.outputs.size() >= 2) {
      return 0;
    }
    Output made = new Output();
    made.p = secrets.get(k);
    made.v = v;
    made.t = t;
    made.w = w;
    made.e = e;
    made.commitment = commitment(made.p, v, t);
    made.a = (v + x((long) e * made.p)) % 1000;
    made.b = (t + y((long) e * made.p)) % ORDER;
    draft.outputs.add(made);
    return 1;
  }

  int balance(int b) {
    if (!in(b, -9999, 9999)) {
      return 0;
    }
    draft.balance = b;
    return 1;
  }

  int alter(int what, int x) {
    boolean ofSpend = in(what, 0, 2), ofOutput = in(what, 3, 4);
    int most = what == 2 || what == 4 ? 999 : what == 5 ? ORDER - 1 : FIELD - 1;
    if (!in(what, 0, 5) || !in(x, 0, most)) {
      return 0;
    }
    if (ofSpend && draft.spends.isEmpty() || ofOutput && draft.outputs.isEmpty()) {
      return 0;
    }
    switch (what) {
      case 0 -> draft.spends.get(0).anchor = x;
      case 1 -> draft.spends.get(0).nullifier = x;
      case 2 -> draft.spends.get(0).v = x;
      case 3 -> draft.outputs.get(0).commitment = x;
      case 4 -> draft.outputs.get(0).a = x;
      default -> draft.turn = x;
    }
    return 1;
  }

  private boolean anchored(Spend spend) {
    for (int n = 0; n <= chain.size(); n++) {
      if (nodeOf(filled(n), 4, 0) == spend.anchor) {
        return true;
      }
    }
    return false;
  }

  private static boolean proven(Spend spend) {
    int node = commitment(spend.secret, spend.v, spend.t);
    int place = spend.leaf;
    for (int level = 0; level < 4; level++) {
      int beside = spend.path[level];
      node = place % 2 == 0 ? hash(node, beside, level + 1) : hash(beside, node, level + 1);
      place /= 2;
    }
    return node == spend.anchor && spend.nullifier == nullifier(spend.secret, spend.leaf);
  }

  private int refusal() {
    if (draft.spends.isEmpty() && draft.outputs.isEmpty()) {
      return -2;
    }
    List<Integer> before = new ArrayList<>();
    long covers = 0;
    for (Spend spend : draft.spends) {
      if (!anchored(spend)) {
        return -3;
      }
      if (!proven(spend)) {
        return -4;
      }
      if (revealed(spend.nullifier) == 1 || before.contains(spend.nullifier)) {
        return -5;
      }
      before.add(spend.nullifier);
      covers += (long) spend.v * V + (long) spend.w * R;
    }
    for (Output output : draft.outputs) {
      if (output.commitment != commitment(output.p, output.v, output.t)) {
        return -4;
      }
      covers -= (long) output.v * V + (long) output.w * R;
    }
    if (mod(covers - (long) draft.balance * V) != mod((long) draft(3) * R)) {
      return -6;
    }
    if (pool() < draft.balance) {
      return -7;
    }
    return chain.size() >= 12 || leaves() + draft.outputs.size() > 16 ? -8 : 0;
  }

  int connect() {
    int refusal = refusal();
    if (refusal != 0) {
      return refusal;
    }
    chain.add(draft);
    draft = new Draft();
    return chain.size();
  }

  int disconnect() {
    if (chain.isEmpty()) {
      return -1;
    }
    chain.remove(chain.size() - 1);
    return chain.size();
  }

  int blocks() {
    return chain.size();
  }

  int leaves() {
    return filled(chain.size()).size();
  }

  int node(int level, int k) {
    int[] widths = {16, 8, 4, 2, 1};
    return in(level, 0, 4) && in(k, 0, widths[level] - 1) ? nodeOf(filled(chain.size()), level, k) : -1;
  }

  int pool() {
    int left = 0;
    for (Draft block : chain) {
      left -= block.balance;
    }
    return left;
  }

  int revealed(int nullifier) {
    for (Draft block : chain) {
      for (Spend spend : block.spends) {
        if (spend.nullifier == nullifier) {
          return 1;
        }
      }
    }
    return 0;
  }

  int note(int k, int i, int what) {
    int[] known = found(k, i);
    if (known == null || !in(what, 0, 3)) {
      return -1;
    }
    int nullifier = nullifier(secrets.get(k), i);
    return what < 2 ? known[what] : what == 2 ? revealed(nullifier) : nullifier;
  }

  int total(int k) {
    if (!in(k, 0, secrets.size() - 1)) {
      return -1;
    }
    int sum = 0;
    for (int i = 0; i < 16; i++) {
      if (note(k, i, 2) == 0) {
        sum += note(k, i, 0);
      }
    }
    return sum;
  }

  int address(int k, int what) {
    if (!in(k, 0, secrets.size() - 1) || !in(what, 0, 1)) {
      return -1;
    }
    return what == 0 ? x(secrets.get(k)) : y(secrets.get(k));
  }

  int draft(int what) {
    int seal = draft.turn;
    List<Integer> covers = new ArrayList<>();
    List<Integer> marks = new ArrayList<>();
    List<Integer> parts = new ArrayList<>();
    for (Spend s : draft.spends) {
      seal += s.w;
      int cover = mod((long) s.v * V + (long) s.w * R);
      covers.addAll(List.of(x(cover), y(cover)));
      marks.addAll(List.of(s.anchor, s.nullifier));
    }
    for (Output o : draft.outputs) {
      seal -= o.w;
      int cover = mod((long) o.v * V + (long) o.w * R);
      parts.addAll(List.of(o.commitment, x(o.e), y(o.e), o.a, o.b, x(cover), y(cover)));
    }
    List<Integer> figures = List.of(draft.spends.size(), draft.outputs.size(), draft.balance, mod(seal));
    Map<Integer, Integer> all = new HashMap<>();
    putFrom(all, 0, figures);
    putFrom(all, 4, covers);
    putFrom(all, 8, parts);
    putFrom(all, 22, marks);
    return all.getOrDefault(what, -10000);
  }

  private static void putFrom(Map<Integer, Integer> all, int from, List<Integer> numbers) {
    for (int n = 0; n < numbers.size(); n++) {
      all.put(from + n, numbers.get(n));
    }
  }
}
