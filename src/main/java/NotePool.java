/**
 * A pool of hidden notes, with a chain of blocks that can be taken back and wallets that look for
 * their notes in it. All objects are made in the constructor and used again: no call makes one.
 */
public final class NotePool {
  public static final int NONE = -1;
  public static final int EMPTY = -2;
  public static final int ANCHOR = -3;
  public static final int PROOF = -4;
  public static final int SPENT = -5;
  public static final int SUM = -6;
  public static final int POOL = -7;
  public static final int FULL = -8;

  private static final int FIELD = 10009;
  private static final int ORDER = 2473;
  private static final int ORDER_BITS = 12;
  private static final int VALUES = 1000;
  private static final int MOST_KEYS = 4;
  private static final int MOST_BLOCKS = 12;
  private static final int MOST_SPENDS = 2;
  private static final int MOST_OUTPUTS = 2;
  private static final int MOST_BALANCE = 9999;
  private static final int LEAVES = 16;
  private static final int LEVELS = 4;
  private static final int NOT_IN_DRAFT = -10000;
  private static final int ACCEPTED = 0;

  private final Bases bases;
  private final Tree tree;
  private final Chain chain;
  private final Draft pending;
  private final Key[] keys;
  private int keyCount;

  public NotePool() {
    bases = new Bases();
    tree = new Tree(bases);
    chain = new Chain(tree.root());
    pending = new Draft();
    keys = new Key[MOST_KEYS];
    for (int k = 0; k < MOST_KEYS; k++) {
      keys[k] = new Key();
    }
    keyCount = 0;
  }

  public int key(int s) {
    if (keyCount == MOST_KEYS || s == 0 || !isScalar(s)) {
      return NONE;
    }
    Key made = keys[keyCount];
    made.begin(bases, s);
    for (int leaf = 0; leaf < tree.filled; leaf++) {
      made.look(bases, tree, leaf);
    }
    keyCount++;
    return keyCount - 1;
  }

  public void clear() {
    pending.empty();
  }

  public boolean spend(int k, int i, int w) {
    if (!finds(k, i) || pending.spendCount == MOST_SPENDS || !isScalar(w)) {
      return false;
    }
    pending.spends[pending.spendCount].fill(bases, tree, keys[k], i, w);
    pending.spendCount++;
    return true;
  }

  public boolean output(int k, int v, int t, int e, int w) {
    if (!isKey(k) || !isValue(v) || !isScalar(t) || !isScalar(e) || !isScalar(w)) {
      return false;
    }
    if (pending.outputCount == MOST_OUTPUTS) {
      return false;
    }
    Output made = pending.outputs[pending.outputCount];
    made.fill(bases, keys[k].address, v, t);
    made.seal(bases, e, w);
    pending.outputCount++;
    return true;
  }

  public boolean balance(int b) {
    if (b < -MOST_BALANCE || b > MOST_BALANCE) {
      return false;
    }
    pending.balance = b;
    return true;
  }

  public boolean alter(int what, int x) {
    if (what >= 0 && what <= 2) {
      return pending.spendCount > 0 && pending.spends[0].change(bases, what, x);
    }
    if (what == 3 || what == 4) {
      return pending.outputCount > 0 && pending.outputs[0].change(what, x);
    }
    if (what != 5 || !isScalar(x)) {
      return false;
    }
    pending.turn = x;
    return true;
  }

  public int connect() {
    if (pending.spendCount == 0 && pending.outputCount == 0) {
      return EMPTY;
    }
    int answer = judgeSpends();
    if (answer == ACCEPTED) {
      answer = judgeOutputs();
    }
    if (answer == ACCEPTED) {
      answer = judgeWhole();
    }
    if (answer != ACCEPTED) {
      return answer;
    }
    for (int j = 0; j < pending.outputCount; j++) {
      tree.append(pending.outputs[j]);
      lookAtLatestLeaf();
    }
    chain.append(pending, tree.root());
    pending.empty();
    return chain.count;
  }

  public int disconnect() {
    if (chain.count == 0) {
      return NONE;
    }
    int leavesBack = chain.removeLatest();
    for (int j = 0; j < leavesBack; j++) {
      tree.removeLatest();
    }
    return chain.count;
  }

  public int blocks() {
    return chain.count;
  }

  public int leaves() {
    return tree.filled;
  }

  public int node(int level, int k) {
    if (level < 0 || level > LEVELS || k < 0 || k >= LEAVES >> level) {
      return NONE;
    }
    return tree.nodes[Tree.place(level, k)];
  }

  public int pool() {
    return chain.content;
  }

  public boolean revealed(int nullifier) {
    return chain.reveals(nullifier);
  }

  public int note(int k, int i, int what) {
    if (!finds(k, i)) {
      return NONE;
    }
    switch (what) {
      case 0:
        return keys[k].values[i];
      case 1:
        return keys[k].trapdoors[i];
      case 2:
        return chain.reveals(keys[k].nullifiers[i]) ? 1 : 0;
      case 3:
        return keys[k].nullifiers[i];
      default:
        return NONE;
    }
  }

  public int total(int k) {
    if (!isKey(k)) {
      return NONE;
    }
    Key owner = keys[k];
    int sum = 0;
    for (int leaf = 0; leaf < tree.filled; leaf++) {
      if (owner.found[leaf] && !chain.reveals(owner.nullifiers[leaf])) {
        sum += owner.values[leaf];
      }
    }
    return sum;
  }

  public int address(int k, int what) {
    if (!isKey(k) || what < 0 || what > 1) {
      return NONE;
    }
    return Curve.coordinate(keys[k].address, what);
  }

  public int draft(int what) {
    if (what < 0 || what > 25) {
      return NOT_IN_DRAFT;
    }
    if (what < 4) {
      return pending.figure(what);
    }
    if (what < 8) {
      return pending.coverOfSpend((what - 4) / 2, (what - 4) % 2);
    }
    if (what < 22) {
      return pending.partOfOutput((what - 8) / 7, (what - 8) % 7);
    }
    return pending.markOfSpend((what - 22) / 2, (what - 22) % 2);
  }

  private boolean isKey(int k) {
    return k >= 0 && k < keyCount;
  }

  private boolean finds(int k, int leaf) {
    return isKey(k) && leaf >= 0 && leaf < tree.filled && keys[k].found[leaf];
  }

  private void lookAtLatestLeaf() {
    for (int k = 0; k < keyCount; k++) {
      keys[k].look(bases, tree, tree.filled - 1);
    }
  }

  private int judgeSpends() {
    for (int j = 0; j < pending.spendCount; j++) {
      Spend judged = pending.spends[j];
      if (!chain.hasRoot(judged.anchor)) {
        return ANCHOR;
      }
      if (!judged.isProven(bases)) {
        return PROOF;
      }
      if (chain.reveals(judged.nullifier) || pending.repeatsNullifier(j)) {
        return SPENT;
      }
    }
    return ACCEPTED;
  }

  private int judgeOutputs() {
    for (int j = 0; j < pending.outputCount; j++) {
      if (!pending.outputs[j].isProven(bases)) {
        return PROOF;
      }
    }
    return ACCEPTED;
  }

  private int judgeWhole() {
    if (pending.excess(bases) != bases.r.times(pending.sealScalar())) {
      return SUM;
    }
    if (chain.content - pending.balance < 0) {
      return POOL;
    }
    if (chain.count == MOST_BLOCKS || LEAVES - tree.filled < pending.outputCount) {
      return FULL;
    }
    return ACCEPTED;
  }

  private static boolean isFieldNumber(int n) {
    return n >= 0 && n < FIELD;
  }

  private static boolean isScalar(int n) {
    return n >= 0 && n < ORDER;
  }

  private static boolean isValue(int n) {
    return n >= 0 && n < VALUES;
  }

  /** Points, each held as the one int x * FIELD + y, so that no sum makes an object. */
  private static final class Curve {
    static final int ZERO = 1;

    static int point(int x, int y) {
      return x * FIELD + y;
    }

    static int coordinate(int point, int what) {
      return what == 0 ? point / FIELD : point % FIELD;
    }

    static int negative(int point) {
      return point((FIELD - point / FIELD) % FIELD, point % FIELD);
    }

    static int sum(int p, int q) {
      int x = p / FIELD;
      int y = p % FIELD;
      int u = q / FIELD;
      int w = q % FIELD;
      int k = 56 * (x * u % FIELD) % FIELD * (y * w % FIELD) % FIELD;
      int belowX = (1 + k) % FIELD;
      int belowY = (1 + FIELD - k) % FIELD;
      // One inverse, of the product, serves both divisions.
      int inverse = inverse(belowX * belowY % FIELD);
      int sumX = (x * w + y * u) % FIELD * (inverse * belowY % FIELD) % FIELD;
      int sumY = (y * w + x * u) % FIELD * (inverse * belowX % FIELD) % FIELD;
      return point(sumX, sumY);
    }

    /** [n] of any point, for a scalar n. */
    static int multiple(int n, int point) {
      int sum = ZERO;
      int doubled = point;
      for (int bit = 0; bit < ORDER_BITS; bit++) {
        if ((n >> bit & 1) == 1) {
          sum = sum(sum, doubled);
        }
        doubled = sum(doubled, doubled);
      }
      return sum;
    }

    /** By Fermat: the power FIELD - 2 of n, of which the exponent has 14 bits. */
    private static int inverse(int n) {
      int power = 1;
      int square = n;
      for (int bit = 0; bit < 14; bit++) {
        if ((FIELD - 2 >> bit & 1) == 1) {
          power = power * square % FIELD;
        }
        square = square * square % FIELD;
      }
      return power;
    }
  }

  /** A base with its doubles kept, as nearly all multiples are of bases. */
  private static final class Base {
    private final int[] doubles = new int[ORDER_BITS];

    Base(int x, int y) {
      int doubled = Curve.point(x, y);
      for (int bit = 0; bit < ORDER_BITS; bit++) {
        doubles[bit] = doubled;
        doubled = Curve.sum(doubled, doubled);
      }
    }

    /** [n] of the base, for any int: as [ORDER] is ZERO, a number below 0 needs no case of its own. */
    int times(int n) {
      int scalar = Math.floorMod(n, ORDER);
      int sum = Curve.ZERO;
      for (int bit = 0; bit < ORDER_BITS; bit++) {
        if ((scalar >> bit & 1) == 1) {
          sum = Curve.sum(sum, doubles[bit]);
        }
      }
      return sum;
    }
  }

  /** The five bases and what is made of them alone. */
  private static final class Bases {
    final Base g = new Base(5090, 9579);
    final Base v = new Base(592, 1212);
    final Base r = new Base(5529, 7488);
    final Base a = new Base(3794, 270);
    final Base b = new Base(1113, 7823);

    int cover(int value, int scalar) {
      return Curve.sum(v.times(value), r.times(scalar));
    }

    int commitment(int address, int value, int trapdoor) {
      int hidden = Curve.sum(v.times(value), r.times(trapdoor));
      return Curve.coordinate(Curve.sum(hidden, address), 0);
    }

    int hash(int left, int right, int level) {
      int both = Curve.sum(a.times(left), b.times(right));
      return Curve.coordinate(Curve.sum(both, g.times(level)), 0);
    }

    int nullifier(int secret, int leaf) {
      return Curve.coordinate(Curve.sum(a.times(secret), b.times(leaf + 1)), 0);
    }
  }

  /** The tree of hashes, and beside each leaf what the output that filled it left for the keys. */
  private static final class Tree {
    private final Bases bases;
    final int[] nodes = new int[2 * LEAVES - 1];
    final int[] sealedValues = new int[LEAVES];
    final int[] sealedTrapdoors = new int[LEAVES];
    final int[] sealPoints = new int[LEAVES];
    int filled;

    Tree(Bases bases) {
      this.bases = bases;
      for (int level = 1; level <= LEVELS; level++) {
        int below = nodes[place(level - 1, 0)];
        int empty = bases.hash(below, below, level);
        for (int k = 0; k < LEAVES >> level; k++) {
          nodes[place(level, k)] = empty;
        }
      }
      filled = 0;
    }

    /** The levels lie one behind another, the leaves first. */
    static int place(int level, int k) {
      return 2 * LEAVES - (2 * LEAVES >> level) + k;
    }

    int root() {
      return nodes[place(LEVELS, 0)];
    }

    void copyPath(int leaf, int[] path) {
      for (int level = 0; level < LEVELS; level++) {
        path[level] = nodes[place(level, leaf >> level ^ 1)];
      }
    }

    void append(Output made) {
      sealedValues[filled] = made.sealedValue;
      sealedTrapdoors[filled] = made.sealedTrapdoor;
      sealPoints[filled] = made.sealPoint;
      setLeaf(filled, made.commitment);
      filled++;
    }

    void removeLatest() {
      filled--;
      setLeaf(filled, 0);
    }

    private void setLeaf(int leaf, int commitment) {
      nodes[leaf] = commitment;
      for (int level = 1; level <= LEVELS; level++) {
        int k = leaf >> level;
        int left = nodes[place(level - 1, 2 * k)];
        int right = nodes[place(level - 1, 2 * k + 1)];
        nodes[place(level, k)] = bases.hash(left, right, level);
      }
    }
  }

  /**
   * A key, with what it knows of the leaves that it finds. What it keeps of leaves that were taken
   * back need not be wiped out: only filled leaves are asked for, and each is looked at when filled.
   */
  private static final class Key {
    int secret;
    int address;
    final boolean[] found = new boolean[LEAVES];
    final int[] values = new int[LEAVES];
    final int[] trapdoors = new int[LEAVES];
    final int[] nullifiers = new int[LEAVES];

    void begin(Bases bases, int s) {
      secret = s;
      address = bases.g.times(s);
    }

    void look(Bases bases, Tree tree, int leaf) {
      int shared = Curve.multiple(secret, tree.sealPoints[leaf]);
      int value = Math.floorMod(tree.sealedValues[leaf] - Curve.coordinate(shared, 0), VALUES);
      int trapdoor = Math.floorMod(tree.sealedTrapdoors[leaf] - Curve.coordinate(shared, 1), ORDER);
      found[leaf] = bases.commitment(address, value, trapdoor) == tree.nodes[leaf];
      values[leaf] = value;
      trapdoors[leaf] = trapdoor;
      nullifiers[leaf] = bases.nullifier(secret, leaf);
    }
  }

  private static final class Spend {
    private int secret;
    private int address;
    private int leaf;
    private int value;
    private int trapdoor;
    private int coverScalar;
    private final int[] path = new int[LEVELS];
    int anchor;
    int nullifier;
    int cover;

    void fill(Bases bases, Tree tree, Key owner, int leaf, int w) {
      this.leaf = leaf;
      secret = owner.secret;
      address = owner.address;
      value = owner.values[leaf];
      trapdoor = owner.trapdoors[leaf];
      nullifier = owner.nullifiers[leaf];
      anchor = tree.root();
      tree.copyPath(leaf, path);
      coverScalar = w;
      cover = bases.cover(value, w);
    }

    boolean change(Bases bases, int what, int x) {
      if (what == 2 ? !isValue(x) : !isFieldNumber(x)) {
        return false;
      }
      if (what == 0) {
        anchor = x;
      } else if (what == 1) {
        nullifier = x;
      } else {
        value = x;
        cover = bases.cover(x, coverScalar);
      }
      return true;
    }

    boolean isProven(Bases bases) {
      int node = bases.commitment(address, value, trapdoor);
      for (int level = 0; level < LEVELS; level++) {
        boolean isRight = (leaf >> level & 1) == 1;
        int left = isRight ? path[level] : node;
        int right = isRight ? node : path[level];
        node = bases.hash(left, right, level + 1);
      }
      return node == anchor && nullifier == bases.nullifier(secret, leaf);
    }
  }

  private static final class Output {
    private int address;
    private int value;
    private int trapdoor;
    int commitment;
    int sealPoint;
    int sealedValue;
    int sealedTrapdoor;
    int coverScalar;
    int cover;

    void fill(Bases bases, int address, int value, int trapdoor) {
      this.address = address;
      this.value = value;
      this.trapdoor = trapdoor;
      commitment = bases.commitment(address, value, trapdoor);
    }

    void seal(Bases bases, int e, int w) {
      int shared = Curve.multiple(e, address);
      sealPoint = bases.g.times(e);
      sealedValue = (value + Curve.coordinate(shared, 0)) % VALUES;
      sealedTrapdoor = (trapdoor + Curve.coordinate(shared, 1)) % ORDER;
      coverScalar = w;
      cover = bases.cover(value, w);
    }

    boolean change(int what, int x) {
      if (what == 3 ? !isFieldNumber(x) : !isValue(x)) {
        return false;
      }
      if (what == 3) {
        commitment = x;
      } else {
        sealedValue = x;
      }
      return true;
    }

    boolean isProven(Bases bases) {
      return commitment == bases.commitment(address, value, trapdoor);
    }

    int part(int what) {
      switch (what) {
        case 0:
          return commitment;
        case 1:
          return Curve.coordinate(sealPoint, 0);
        case 2:
          return Curve.coordinate(sealPoint, 1);
        case 3:
          return sealedValue;
        case 4:
          return sealedTrapdoor;
        case 5:
          return Curve.coordinate(cover, 0);
        default:
          return Curve.coordinate(cover, 1);
      }
    }
  }

  private static final class Draft {
    final Spend[] spends = new Spend[MOST_SPENDS];
    final Output[] outputs = new Output[MOST_OUTPUTS];
    int spendCount;
    int outputCount;
    int balance;
    int turn;

    Draft() {
      for (int j = 0; j < MOST_SPENDS; j++) {
        spends[j] = new Spend();
      }
      for (int j = 0; j < MOST_OUTPUTS; j++) {
        outputs[j] = new Output();
      }
    }

    void empty() {
      spendCount = 0;
      outputCount = 0;
      balance = 0;
      turn = 0;
    }

    int sealScalar() {
      int sum = turn;
      for (int j = 0; j < spendCount; j++) {
        sum += spends[j].coverScalar;
      }
      for (int j = 0; j < outputCount; j++) {
        sum -= outputs[j].coverScalar;
      }
      return Math.floorMod(sum, ORDER);
    }

    /** The covers of the spends, less those of the outputs, less what leaves the pool. */
    int excess(Bases bases) {
      int sum = Curve.negative(bases.v.times(balance));
      for (int j = 0; j < spendCount; j++) {
        sum = Curve.sum(sum, spends[j].cover);
      }
      for (int j = 0; j < outputCount; j++) {
        sum = Curve.sum(sum, Curve.negative(outputs[j].cover));
      }
      return sum;
    }

    boolean repeatsNullifier(int j) {
      for (int before = 0; before < j; before++) {
        if (spends[before].nullifier == spends[j].nullifier) {
          return true;
        }
      }
      return false;
    }

    int figure(int what) {
      switch (what) {
        case 0:
          return spendCount;
        case 1:
          return outputCount;
        case 2:
          return balance;
        default:
          return sealScalar();
      }
    }

    int coverOfSpend(int j, int what) {
      return j < spendCount ? Curve.coordinate(spends[j].cover, what) : NOT_IN_DRAFT;
    }

    int partOfOutput(int j, int what) {
      return j < outputCount ? outputs[j].part(what) : NOT_IN_DRAFT;
    }

    int markOfSpend(int j, int what) {
      if (j >= spendCount) {
        return NOT_IN_DRAFT;
      }
      return what == 0 ? spends[j].anchor : spends[j].nullifier;
    }
  }

  /** What the chain keeps of a draft. */
  private static final class Block {
    final int[] nullifiers = new int[MOST_SPENDS];
    int spendCount;
    int outputCount;
    int balance;
    int rootBehind;
  }

  private static final class Chain {
    private final Block[] blocks = new Block[MOST_BLOCKS];
    private final int emptyRoot;
    int count;
    int content;

    Chain(int emptyRoot) {
      this.emptyRoot = emptyRoot;
      for (int n = 0; n < MOST_BLOCKS; n++) {
        blocks[n] = new Block();
      }
      count = 0;
      content = 0;
    }

    boolean hasRoot(int root) {
      boolean has = root == emptyRoot;
      for (int n = 0; n < count && !has; n++) {
        has = blocks[n].rootBehind == root;
      }
      return has;
    }

    boolean reveals(int nullifier) {
      for (int n = 0; n < count; n++) {
        for (int j = 0; j < blocks[n].spendCount; j++) {
          if (blocks[n].nullifiers[j] == nullifier) {
            return true;
          }
        }
      }
      return false;
    }

    void append(Draft draft, int rootBehind) {
      Block made = blocks[count];
      made.spendCount = draft.spendCount;
      made.outputCount = draft.outputCount;
      made.balance = draft.balance;
      made.rootBehind = rootBehind;
      for (int j = 0; j < draft.spendCount; j++) {
        made.nullifiers[j] = draft.spends[j].nullifier;
      }
      content -= draft.balance;
      count++;
    }

    /** How many leaves the block had filled. */
    int removeLatest() {
      count--;
      content += blocks[count].balance;
      return blocks[count].outputCount;
    }
  }
}
