/** For each promise of the document, its ordinary inputs, its edges and wrong inputs. */
public final class PromiseTest {
  private static final int MIN = Integer.MIN_VALUE;
  private static final int MAX = Integer.MAX_VALUE;
  private static final int EMPTY_ROOT = 8711;

  private final Check check = new Check();
  private NotePool pool;

  public static void main(String[] args) {
    PromiseTest test = new PromiseTest();
    test.terms();
    test.newObject();
    test.key();
    test.keyLooksThroughChain();
    test.clear();
    test.spend();
    test.output();
    test.outputSeals();
    test.balance();
    test.alterSpend();
    test.alterOutputAndTurn();
    test.connect();
    test.connectOrder();
    test.connectAnchor();
    test.connectProof();
    test.connectSpent();
    test.connectSum();
    test.connectSumByTurn();
    test.connectPool();
    test.connectFullOfBlocks();
    test.connectFullOfLeaves();
    test.connectRefusedChangesNothing();
    test.disconnect();
    test.disconnectKeepsDraft();
    test.blocksAndLeaves();
    test.node();
    test.pool();
    test.revealed();
    test.note();
    test.noteOfAlteredOutput();
    test.total();
    test.address();
    test.draft();
    test.objectsAreApart();
    test.check.end();
  }

  private void due(String call, long got, long want) {
    check.due(call, got, want);
  }

  private void yes(String call, boolean got) {
    check.due(call, got, true);
  }

  private void no(String call, boolean got) {
    check.due(call, got, false);
  }

  private void begin(int... secrets) {
    pool = new NotePool();
    for (int k = 0; k < secrets.length; k++) {
      due("key " + secrets[k], pool.key(secrets[k]), k);
    }
  }

  /** A block of one output that brings its value into the pool. */
  private void bring(int k, int v, int t) {
    int before = pool.blocks();
    yes("output to bring", pool.output(k, v, t, (11 + t) % 2473, 13));
    yes("balance to bring", pool.balance(-v));
    due("connect to bring", pool.connect(), before + 1);
  }

  private void draftHasNothing(String when) {
    for (int what = 0; what < 4; what++) {
      due(when + " draft " + what, pool.draft(what), 0);
    }
    for (int what = 4; what < 26; what++) {
      due(when + " draft " + what, pool.draft(what), -10000);
    }
  }

  private void chainIsEmpty(String when) {
    due(when + " blocks", pool.blocks(), 0);
    due(when + " leaves", pool.leaves(), 0);
    due(when + " pool", pool.pool(), 0);
    due(when + " root", pool.node(4, 0), EMPTY_ROOT);
  }

  private void terms() {
    int[][] bases = {{5090, 9579}, {592, 1212}, {5529, 7488}, {3794, 270}, {1113, 7823}};
    for (int[] base : bases) {
      yes("base on the curve", Model.onCurve(base[0], base[1]));
    }
    begin(1, 2472, 2, 1237);
    for (int k = 0; k < 4; k++) {
      yes("address on the curve", Model.onCurve(pool.address(k, 0), pool.address(k, 1)));
    }
    due("x of -G", pool.address(1, 0), 10009 - 5090);
    due("y of -G", pool.address(1, 1), 9579);
    due("y of [2]G", pool.address(2, 1), Model.add(new long[] {5090, 9579}, new long[] {5090, 9579})[1]);
  }

  private void newObject() {
    begin();
    chainIsEmpty("new");
    draftHasNothing("new");
    due("new address", pool.address(0, 0), -1);
    due("new total", pool.total(0), -1);
    due("new disconnect", pool.disconnect(), -1);
    due("new connect", pool.connect(), -2);
  }

  private void key() {
    begin();
    int[] wrong = {0, -1, 2473, 2474, MIN, MAX};
    for (int s : wrong) {
      due("key " + s, pool.key(s), -1);
    }
    due("key 1", pool.key(1), 0);
    due("key 2472", pool.key(2472), 1);
    due("key again", pool.key(1), 2);
    due("wrong key between", pool.key(0), -1);
    due("no fourth yet", pool.address(3, 0), -1);
    due("fourth", pool.key(1000), 3);
    due("fifth", pool.key(4), -1);
    due("fifth address", pool.address(4, 0), -1);
    due("fourth stays", pool.address(3, 0), Model.x(1000));
  }

  private void keyLooksThroughChain() {
    begin(50);
    bring(0, 100, 7);
    bring(0, 200, 8);
    yes("spend", pool.spend(0, 0, 0));
    yes("balance", pool.balance(100));
    due("connect", pool.connect(), 3);
    due("other key", pool.key(51), 1);
    due("other key finds nothing", pool.total(1), 0);
    due("other key's note", pool.note(1, 1, 0), -1);
    due("same key", pool.key(50), 2);
    due("same key's spent note", pool.note(2, 0, 2), 1);
    due("same key's value", pool.note(2, 0, 0), 100);
    due("same key's trapdoor", pool.note(2, 1, 1), 8);
    due("same key's total", pool.total(2), 200);
  }

  private void clear() {
    begin(5);
    bring(0, 30, 1);
    yes("spend", pool.spend(0, 0, 4));
    yes("spend", pool.spend(0, 0, 4));
    yes("output", pool.output(0, 1, 2, 3, 4));
    yes("output", pool.output(0, 1, 2, 3, 4));
    yes("balance", pool.balance(17));
    yes("turn", pool.alter(5, 18));
    pool.clear();
    draftHasNothing("cleared");
    due("blocks stay", pool.blocks(), 1);
    due("keys stay", pool.total(0), 30);
    pool.clear();
    draftHasNothing("cleared twice");
  }

  private void spend() {
    begin(5, 6);
    no("spend in the empty tree", pool.spend(0, 0, 0));
    bring(0, 30, 1);
    bring(1, 40, 2);
    int[] wrongKeys = {-1, 2, 3, 4, MIN, MAX};
    for (int k : wrongKeys) {
      no("spend by key " + k, pool.spend(k, 0, 0));
    }
    int[] wrongLeaves = {-1, 1, 2, 15, 16, 17, MIN, MAX};
    for (int i : wrongLeaves) {
      no("spend of leaf " + i, pool.spend(0, i, 0));
    }
    int[] wrongScalars = {-1, 2473, MIN, MAX};
    for (int w : wrongScalars) {
      no("spend with w " + w, pool.spend(0, 0, w));
    }
    draftHasNothing("after wrong spends");
    yes("spend with w 0", pool.spend(0, 0, 0));
    yes("spend with w 2472", pool.spend(1, 1, 2472));
    no("third spend", pool.spend(0, 0, 1));
    due("spends", pool.draft(0), 2);
    due("cover x", pool.draft(4), Model.x(30L * Model.V));
    due("cover y", pool.draft(5), Model.y(30L * Model.V));
    due("second cover x", pool.draft(6), Model.x(40L * Model.V + 2472L * Model.R));
    due("second cover y", pool.draft(7), Model.y(40L * Model.V + 2472L * Model.R));
    due("anchor", pool.draft(22), pool.node(4, 0));
    due("nullifier", pool.draft(23), Model.nullifier(5, 0));
    due("second anchor", pool.draft(24), pool.node(4, 0));
    due("second nullifier", pool.draft(25), Model.nullifier(6, 1));
    due("seal", pool.draft(3), 2472);
    yes("balance", pool.balance(70));
    due("connect", pool.connect(), 3);
    yes("spent leaf goes into the draft", pool.spend(0, 0, 3));
  }

  private void output() {
    begin(5, 6);
    int[] wrongKeys = {-1, 2, 4, MIN, MAX};
    for (int k : wrongKeys) {
      no("output to key " + k, pool.output(k, 1, 1, 1, 1));
    }
    int[] wrongValues = {-1, 1000, MIN, MAX};
    for (int v : wrongValues) {
      no("output of v " + v, pool.output(0, v, 1, 1, 1));
    }
    int[] wrongScalars = {-1, 2473, MIN, MAX};
    for (int n : wrongScalars) {
      no("output with t " + n, pool.output(0, 1, n, 1, 1));
      no("output with e " + n, pool.output(0, 1, 1, n, 1));
      no("output with w " + n, pool.output(0, 1, 1, 1, n));
    }
    draftHasNothing("after wrong outputs");
    yes("least output", pool.output(0, 0, 0, 0, 0));
    yes("greatest output", pool.output(1, 999, 2472, 2472, 2472));
    no("third output", pool.output(0, 1, 1, 1, 1));
    due("outputs", pool.draft(1), 2);
  }

  private void outputSeals() {
    begin(5, 6);
    yes("output", pool.output(0, 0, 0, 0, 0));
    due("commitment of the address alone", pool.draft(8), Model.x(5));
    due("E x of e 0", pool.draft(9), 0);
    due("E y of e 0", pool.draft(10), 1);
    due("first sealed of ZERO", pool.draft(11), 0);
    due("second sealed of ZERO", pool.draft(12), 1);
    due("cover x of nothing", pool.draft(13), 0);
    due("cover y of nothing", pool.draft(14), 1);
    yes("output", pool.output(1, 999, 2472, 2472, 2472));
    due("commitment", pool.draft(15), Model.x(999L * Model.V + 2472L * Model.R + 6));
    due("E x", pool.draft(16), Model.x(2472));
    due("E y", pool.draft(17), Model.y(2472));
    due("first sealed", pool.draft(18), (999 + Model.x(2472L * 6)) % 1000);
    due("second sealed", pool.draft(19), (2472 + Model.y(2472L * 6)) % 2473);
    due("cover x", pool.draft(20), Model.x(999L * Model.V + 2472L * Model.R));
    due("cover y", pool.draft(21), Model.y(999L * Model.V + 2472L * Model.R));
    due("seal", pool.draft(3), 1);
  }

  private void balance() {
    begin();
    int[] right = {-9999, 9999, 0, 1, -1};
    for (int b : right) {
      yes("balance " + b, pool.balance(b));
      due("balance " + b, pool.draft(2), b);
    }
    int[] wrong = {-10000, 10000, MIN, MAX};
    for (int b : wrong) {
      no("balance " + b, pool.balance(b));
      due("balance stays", pool.draft(2), -1);
    }
  }

  private void alterSpend() {
    begin(9);
    bring(0, 12, 34);
    for (int what = 0; what < 3; what++) {
      no("alter without a spend", pool.alter(what, 5));
    }
    yes("spend", pool.spend(0, 0, 77));
    yes("second spend", pool.spend(0, 0, 78));
    int secondAnchor = pool.draft(24);
    for (int what = 0; what < 2; what++) {
      yes("alter to 10008", pool.alter(what, 10008));
      due("altered", pool.draft(22 + what), 10008);
      yes("alter to 0", pool.alter(what, 0));
      no("alter to 10009", pool.alter(what, 10009));
      no("alter to -1", pool.alter(what, -1));
      no("alter to the least int", pool.alter(what, MIN));
      due("altered", pool.draft(22 + what), 0);
    }
    yes("value 999", pool.alter(2, 999));
    due("cover of 999", pool.draft(4), Model.x(999L * Model.V + 77L * Model.R));
    yes("value 0", pool.alter(2, 0));
    no("value 1000", pool.alter(2, 1000));
    no("value -1", pool.alter(2, -1));
    due("cover of 0", pool.draft(4), Model.x(77L * Model.R));
    due("cover y of 0", pool.draft(5), Model.y(77L * Model.R));
    due("seal stays", pool.draft(3), 155);
    due("second cover stays", pool.draft(6), Model.x(12L * Model.V + 78L * Model.R));
    due("second anchor stays", pool.draft(24), secondAnchor);
    due("second nullifier stays", pool.draft(25), Model.nullifier(9, 0));
  }

  private void alterOutputAndTurn() {
    begin(9);
    no("alter without an output", pool.alter(3, 5));
    no("alter without an output", pool.alter(4, 5));
    yes("turn of an empty draft", pool.alter(5, 2472));
    due("seal is the turn", pool.draft(3), 2472);
    no("turn 2473", pool.alter(5, 2473));
    no("turn -1", pool.alter(5, -1));
    int[] wrongWhats = {-1, 6, 7, MIN, MAX};
    for (int what : wrongWhats) {
      no("alter " + what, pool.alter(what, 1));
    }
    due("turn stays", pool.draft(3), 2472);
    yes("output", pool.output(0, 1, 2, 3, 4));
    yes("output", pool.output(0, 5, 6, 7, 8));
    int secondCommitment = pool.draft(15);
    int secondSealed = pool.draft(18);
    int ownSecond = pool.draft(12);
    yes("commitment 10008", pool.alter(3, 10008));
    due("commitment", pool.draft(8), 10008);
    yes("commitment 0", pool.alter(3, 0));
    no("commitment 10009", pool.alter(3, 10009));
    no("commitment -1", pool.alter(3, -1));
    due("commitment", pool.draft(8), 0);
    yes("sealed 999", pool.alter(4, 999));
    due("sealed", pool.draft(11), 999);
    yes("sealed 0", pool.alter(4, 0));
    no("sealed 1000", pool.alter(4, 1000));
    no("sealed -1", pool.alter(4, -1));
    due("sealed", pool.draft(11), 0);
    due("second sealed number stays", pool.draft(12), ownSecond);
    due("second output's commitment stays", pool.draft(15), secondCommitment);
    due("second output's sealed number stays", pool.draft(18), secondSealed);
    due("seal with turn", pool.draft(3), 2472 - 4 - 8);
  }

  private void connect() {
    begin(5, 6);
    yes("output", pool.output(0, 700, 33, 9, 100));
    yes("output", pool.output(1, 40, 2000, 2472, 7));
    yes("balance", pool.balance(-740));
    due("connect", pool.connect(), 1);
    draftHasNothing("connected");
    due("first leaf", pool.node(0, 0), Model.commitment(5, 700, 33));
    due("second leaf", pool.node(0, 1), Model.commitment(6, 40, 2000));
    due("third leaf", pool.node(0, 2), 0);
    due("first key's total", pool.total(0), 700);
    due("second key's total", pool.total(1), 40);
    yes("spend", pool.spend(0, 0, 1));
    yes("spend", pool.spend(1, 1, 2));
    yes("output", pool.output(1, 600, 3, 4, 5));
    yes("balance", pool.balance(140));
    due("connect spends", pool.connect(), 2);
    due("pool", pool.pool(), 600);
    due("third leaf", pool.node(0, 2), Model.commitment(6, 600, 3));
    yes("revealed", pool.revealed(Model.nullifier(5, 0)));
    yes("revealed", pool.revealed(Model.nullifier(6, 1)));
    due("draft gone", pool.connect(), -2);
  }

  private void connectOrder() {
    begin(5);
    yes("balance alone", pool.balance(1));
    yes("turn alone", pool.alter(5, 1));
    due("empty before the sum", pool.connect(), -2);
    pool.clear();
    bring(0, 10, 1);
    yes("spend", pool.spend(0, 0, 1));
    yes("nullifier", pool.alter(1, 1));
    yes("anchor", pool.alter(0, 1));
    due("anchor before proof", pool.connect(), -3);
    yes("output", pool.output(0, 1, 1, 1, 1));
    yes("commitment", pool.alter(3, 1));
    yes("anchor back", pool.alter(0, pool.node(4, 0)));
    due("spend's proof", pool.connect(), -4);
    yes("nullifier back", pool.alter(1, Model.nullifier(5, 0)));
    yes("second spend", pool.spend(0, 0, 1));
    due("spent before an output's proof", pool.connect(), -5);
    pool.clear();
    yes("spend", pool.spend(0, 0, 1));
    yes("second spend", pool.spend(0, 0, 1));
    yes("first anchor", pool.alter(0, 3));
    due("first spend's anchor before the second", pool.connect(), -3);
    pool.clear();
    yes("output", pool.output(0, 1, 1, 1, 1));
    yes("commitment", pool.alter(3, 1));
    due("output's proof before the sum", pool.connect(), -4);
    yes("commitment back", pool.alter(3, Model.commitment(5, 1, 1)));
    yes("balance", pool.balance(9999));
    due("sum before pool", pool.connect(), -6);
    yes("balance", pool.balance(-1));
    due("all back", pool.connect(), 2);
  }

  private void connectAnchor() {
    begin(5);
    bring(0, 10, 1);
    int first = pool.node(4, 0);
    bring(0, 20, 2);
    yes("spend", pool.spend(0, 0, 1));
    yes("empty root", pool.alter(0, EMPTY_ROOT));
    due("root of the empty tree is an anchor", pool.connect(), -4);
    yes("first root", pool.alter(0, first));
    due("a root of the chain is an anchor", pool.connect(), -4);
    yes("a leaf", pool.alter(0, pool.node(0, 0)));
    due("a leaf is no anchor", pool.connect(), -3);
    pool.clear();
    yes("early spend", pool.spend(0, 0, 1));
    due("disconnect", pool.disconnect(), 1);
    due("the root went with its block", pool.connect(), -3);
    pool.clear();
    yes("spend", pool.spend(0, 0, 1));
    yes("balance", pool.balance(10));
    yes("output keeps waiting", pool.output(0, 0, 0, 0, 0));
    due("present root", pool.connect(), 2);
    anchorOfSameRoot();
  }

  /** A block without outputs has the root of the block before it. */
  private void anchorOfSameRoot() {
    begin(5);
    bring(0, 10, 1);
    bring(0, 20, 2);
    yes("spend", pool.spend(0, 0, 1));
    yes("balance", pool.balance(10));
    due("block without outputs", pool.connect(), 3);
    yes("spend", pool.spend(0, 1, 1));
    yes("balance", pool.balance(20));
    due("disconnect", pool.disconnect(), 2);
    due("root stays", pool.connect(), 3);
  }

  private void connectProof() {
    begin(5);
    bring(0, 10, 1);
    yes("spend", pool.spend(0, 0, 1));
    yes("value", pool.alter(2, 11));
    yes("balance", pool.balance(11));
    due("other value", pool.connect(), -4);
    yes("value back", pool.alter(2, 10));
    yes("balance", pool.balance(10));
    yes("other nullifier", pool.alter(1, Model.nullifier(5, 1)));
    due("other nullifier", pool.connect(), -4);
    yes("nullifier back", pool.alter(1, Model.nullifier(5, 0)));
    due("all right", pool.connect(), 2);
    yes("output", pool.output(0, 1, 1, 1, 1));
    yes("second output", pool.output(0, 1, 2, 1, 1));
    yes("balance", pool.balance(-2));
    yes("second's commitment", pool.alter(3, Model.commitment(5, 1, 2)));
    due("other commitment", pool.connect(), -4);
    yes("commitment back", pool.alter(3, Model.commitment(5, 1, 1)));
    due("all right", pool.connect(), 3);
    proofOfEveryLeaf();
  }

  private void proofOfEveryLeaf() {
    begin(77);
    for (int n = 0; n < 8; n++) {
      yes("output", pool.output(0, n, 2 * n, n, 1));
      yes("output", pool.output(0, n, 2 * n + 1, n, 1));
      yes("balance", pool.balance(-2 * n));
      due("connect", pool.connect(), n + 1);
    }
    for (int i = 0; i < 16; i++) {
      yes("spend of leaf " + i, pool.spend(0, i, i));
      yes("balance", pool.balance(i / 2));
      due("connect spend of leaf " + i, pool.connect(), 9);
      due("disconnect", pool.disconnect(), 8);
    }
  }

  private void connectSpent() {
    begin(5, 5);
    bring(0, 10, 1);
    yes("spend", pool.spend(0, 0, 1));
    yes("the same by the twin key", pool.spend(1, 0, 2));
    yes("balance", pool.balance(20));
    due("twice in a draft", pool.connect(), -5);
    pool.clear();
    yes("spend", pool.spend(0, 0, 1));
    yes("balance", pool.balance(10));
    due("once", pool.connect(), 2);
    yes("spend", pool.spend(1, 0, 1));
    yes("balance", pool.balance(10));
    due("revealed", pool.connect(), -5);
    due("disconnect", pool.disconnect(), 1);
    due("no more revealed", pool.connect(), 2);
  }

  private void connectSum() {
    begin(5);
    yes("output", pool.output(0, 10, 1, 2, 3));
    due("without balance", pool.connect(), -6);
    yes("balance", pool.balance(10));
    due("wrong sign", pool.connect(), -6);
    yes("balance", pool.balance(-11));
    due("one too much", pool.connect(), -6);
    yes("balance", pool.balance(-10));
    yes("turn", pool.alter(5, 1));
    due("turned", pool.connect(), -6);
    yes("turn", pool.alter(5, 0));
    due("right", pool.connect(), 1);
    yes("output", pool.output(0, 10, 1, 2, 3));
    yes("balance", pool.balance(-10 - 2473));
    due("the order of V more", pool.connect(), 2);
    due("pool", pool.pool(), 2493);
  }

  private void connectSumByTurn() {
    begin(5);
    yes("output", pool.output(0, 10, 1, 2, 3));
    yes("turn", pool.alter(5, Model.turnFor(-10)));
    due("a turn makes good what misses", pool.connect(), 1);
    due("pool", pool.pool(), 0);
    due("turn gone", pool.draft(3), 0);
    draftHasNothing("after a turned block");
    yes("spend", pool.spend(0, 0, 1));
    yes("turn", pool.alter(5, Model.turnFor(10)));
    due("a turn of a spend", pool.connect(), 2);
  }

  private void connectPool() {
    begin(5);
    yes("output", pool.output(0, 5, 1, 2, 3));
    yes("balance", pool.balance(2473 - 5));
    due("below 0", pool.connect(), -7);
    yes("balance", pool.balance(-5));
    due("fine", pool.connect(), 1);
    yes("output", pool.output(0, 5, 1, 2, 3));
    yes("balance", pool.balance(6));
    yes("turn", pool.alter(5, Model.turnFor(-11)));
    due("one below 0", pool.connect(), -7);
    yes("balance", pool.balance(5));
    yes("turn", pool.alter(5, Model.turnFor(-10)));
    due("just 0", pool.connect(), 2);
    due("pool", pool.pool(), 0);
  }

  private void connectFullOfBlocks() {
    begin(5);
    for (int n = 1; n <= 12; n++) {
      yes("output", pool.output(0, 0, n, 0, 0));
      due("block", pool.connect(), n);
    }
    yes("output", pool.output(0, 0, 13, 0, 0));
    due("thirteenth", pool.connect(), -8);
    yes("balance", pool.balance(2473));
    due("pool before full", pool.connect(), -7);
    yes("balance", pool.balance(0));
    due("draft stays", pool.draft(1), 1);
    due("disconnect", pool.disconnect(), 11);
    due("connect again", pool.connect(), 12);
    due("last leaf", pool.node(0, 11), Model.commitment(5, 0, 13));
  }

  private void connectFullOfLeaves() {
    begin(5);
    for (int n = 1; n <= 7; n++) {
      yes("output", pool.output(0, 0, n, 0, 0));
      yes("output", pool.output(0, 0, n, 1, 0));
      due("block", pool.connect(), n);
    }
    bring(0, 0, 15);
    yes("output", pool.output(0, 0, 1, 0, 0));
    yes("output", pool.output(0, 0, 2, 0, 0));
    due("one leaf left for two", pool.connect(), -8);
    due("leaves", pool.leaves(), 15);
    pool.clear();
    bring(0, 0, 16);
    due("leaves", pool.leaves(), 16);
    yes("output", pool.output(0, 0, 1, 0, 0));
    due("no leaf left", pool.connect(), -8);
    pool.clear();
    yes("spend", pool.spend(0, 15, 0));
    due("a spend needs no leaf", pool.connect(), 10);
  }

  private void connectRefusedChangesNothing() {
    begin(5);
    bring(0, 10, 1);
    yes("spend", pool.spend(0, 0, 1));
    yes("output", pool.output(0, 3, 4, 5, 6));
    yes("balance", pool.balance(8));
    yes("turn", pool.alter(5, 9));
    int[] before = new int[26];
    for (int what = 0; what < 26; what++) {
      before[what] = pool.draft(what);
    }
    due("refused", pool.connect(), -6);
    for (int what = 0; what < 26; what++) {
      due("draft stays " + what, pool.draft(what), before[what]);
    }
    due("blocks", pool.blocks(), 1);
    due("leaves", pool.leaves(), 1);
    due("pool", pool.pool(), 10);
    no("revealed", pool.revealed(Model.nullifier(5, 0)));
    due("leaf", pool.node(0, 1), 0);
    due("total", pool.total(0), 10);
  }

  private void disconnect() {
    begin(5);
    int[] roots = new int[4];
    for (int n = 0; n < 3; n++) {
      roots[n] = pool.node(4, 0);
      yes("output", pool.output(0, 10, n, n, n));
      yes("output", pool.output(0, 20, n, n, n));
      yes("balance", pool.balance(-30));
      due("connect", pool.connect(), n + 1);
    }
    yes("spend", pool.spend(0, 0, 0));
    yes("balance", pool.balance(10));
    due("connect", pool.connect(), 4);
    due("disconnect a spend", pool.disconnect(), 3);
    no("revealed", pool.revealed(Model.nullifier(5, 0)));
    due("leaves stay", pool.leaves(), 6);
    due("spent no more", pool.note(0, 0, 2), 0);
    for (int n = 2; n >= 0; n--) {
      due("disconnect", pool.disconnect(), n);
      due("blocks", pool.blocks(), n);
      due("leaves", pool.leaves(), 2 * n);
      due("pool", pool.pool(), 30 * n);
      due("total", pool.total(0), 30 * n);
      due("root", pool.node(4, 0), roots[n]);
      due("leaf", pool.node(0, 2 * n), 0);
      due("second leaf", pool.node(0, 2 * n + 1), 0);
      due("note", pool.note(0, 2 * n, 0), -1);
    }
    due("none left", pool.disconnect(), -1);
    chainIsEmpty("all taken back");
    bring(0, 7, 7);
    due("other block in its place", pool.note(0, 0, 0), 7);
  }

  private void disconnectKeepsDraft() {
    begin(5);
    bring(0, 10, 1);
    yes("spend", pool.spend(0, 0, 2));
    yes("balance", pool.balance(10));
    int anchor = pool.draft(22);
    due("disconnect", pool.disconnect(), 0);
    due("spend stays", pool.draft(0), 1);
    due("balance stays", pool.draft(2), 10);
    due("anchor stays", pool.draft(22), anchor);
    due("anchor no more in the chain", pool.connect(), -3);
    pool.clear();
    bring(0, 10, 1);
    yes("spend", pool.spend(0, 0, 2));
    yes("balance", pool.balance(10));
    due("disconnect", pool.disconnect(), 0);
    yes("no note to spend", !pool.spend(0, 0, 2));
  }

  private void blocksAndLeaves() {
    begin(5);
    for (int n = 1; n <= 12; n++) {
      bring(0, n, n);
      due("blocks", pool.blocks(), n);
      due("leaves", pool.leaves(), n);
    }
    due("disconnect", pool.disconnect(), 11);
    due("blocks", pool.blocks(), 11);
    due("leaves", pool.leaves(), 11);
  }

  private void node() {
    begin(5);
    int[] empty = new int[5];
    for (int level = 1; level < 5; level++) {
      empty[level] = Model.hash(empty[level - 1], empty[level - 1], level);
    }
    for (int level = 0; level < 5; level++) {
      for (int k = 0; k < 16 >> level; k++) {
        due("empty node", pool.node(level, k), empty[level]);
      }
      due("behind the level", pool.node(level, 16 >> level), -1);
      due("before the level", pool.node(level, -1), -1);
      due("far away", pool.node(level, MAX), -1);
      due("far below", pool.node(level, MIN), -1);
    }
    int[] wrongLevels = {-1, 5, 6, 31, 32, 36, -28, MIN, MAX};
    for (int level : wrongLevels) {
      due("level " + level, pool.node(level, 0), -1);
    }
    bring(0, 1, 2);
    bring(0, 3, 4);
    bring(0, 5, 6);
    int left = Model.hash(Model.commitment(5, 1, 2), Model.commitment(5, 3, 4), 1);
    int right = Model.hash(Model.commitment(5, 5, 6), 0, 1);
    due("node above leaves", pool.node(1, 0), left);
    due("node above a leaf", pool.node(1, 1), right);
    due("untouched node", pool.node(1, 2), empty[1]);
    due("node of level 2", pool.node(2, 0), Model.hash(left, right, 2));
    due("node of level 3", pool.node(3, 0), Model.hash(pool.node(2, 0), empty[2], 3));
    due("root", pool.node(4, 0), Model.hash(pool.node(3, 0), empty[3], 4));
  }

  private void pool() {
    begin(5);
    bring(0, 999, 1);
    due("pool", pool.pool(), 999);
    yes("balance", pool.balance(-5));
    due("a draft is not in the pool", pool.pool(), 999);
    pool.clear();
    yes("spend", pool.spend(0, 0, 1));
    yes("balance", pool.balance(999));
    due("connect", pool.connect(), 2);
    due("all left", pool.pool(), 0);
    due("disconnect", pool.disconnect(), 1);
    due("pool again", pool.pool(), 999);
    yes("output", pool.output(0, 0, 0, 0, 0));
    yes("balance", pool.balance(-4 * 2473));
    due("connect", pool.connect(), 2);
    due("great pool", pool.pool(), 999 + 9892);
  }

  private void revealed() {
    begin(5, 6);
    bring(0, 1, 1);
    bring(1, 2, 2);
    bring(0, 3, 3);
    yes("spend", pool.spend(0, 0, 1));
    no("a draft reveals nothing", pool.revealed(Model.nullifier(5, 0)));
    yes("spend", pool.spend(1, 1, 1));
    yes("balance", pool.balance(3));
    due("connect", pool.connect(), 4);
    yes("spend", pool.spend(0, 2, 1));
    yes("balance", pool.balance(3));
    due("connect", pool.connect(), 5);
    yes("first", pool.revealed(Model.nullifier(5, 0)));
    yes("second", pool.revealed(Model.nullifier(6, 1)));
    yes("of a later block", pool.revealed(Model.nullifier(5, 2)));
    no("of the other key", pool.revealed(Model.nullifier(6, 0)));
    int[] wrong = {0, -1, 10009, MIN, MAX};
    for (int n : wrong) {
      no("revealed " + n, pool.revealed(n));
    }
    due("disconnect", pool.disconnect(), 4);
    no("of the block taken back", pool.revealed(Model.nullifier(5, 2)));
    yes("of a block that stays", pool.revealed(Model.nullifier(6, 1)));
  }

  private void note() {
    begin(5, 6, 5);
    bring(0, 999, 2472);
    bring(1, 0, 0);
    due("value", pool.note(0, 0, 0), 999);
    due("trapdoor", pool.note(0, 0, 1), 2472);
    due("not spent", pool.note(0, 0, 2), 0);
    due("nullifier", pool.note(0, 0, 3), Model.nullifier(5, 0));
    due("least value", pool.note(1, 1, 0), 0);
    due("least trapdoor", pool.note(1, 1, 1), 0);
    due("nullifier", pool.note(1, 1, 3), Model.nullifier(6, 1));
    due("other key's leaf", pool.note(0, 1, 0), -1);
    due("other key's leaf", pool.note(1, 0, 3), -1);
    due("twin key's leaf", pool.note(2, 0, 0), 999);
    int[] wrong = {-1, 4, 5, MIN, MAX};
    for (int n : wrong) {
      due("what " + n, pool.note(0, 0, n), -1);
      due("key " + n, pool.note(n, 0, 0), -1);
      due("leaf " + n, pool.note(0, n, 0), -1);
    }
    due("no such key yet", pool.note(3, 0, 0), -1);
    due("leaf 16", pool.note(0, 16, 0), -1);
    yes("spend", pool.spend(0, 0, 1));
    due("not spent by a draft", pool.note(0, 0, 2), 0);
    yes("balance", pool.balance(999));
    due("connect", pool.connect(), 3);
    due("spent", pool.note(0, 0, 2), 1);
    due("spent for the twin", pool.note(2, 0, 2), 1);
    due("value stays", pool.note(0, 0, 0), 999);
    due("not spent", pool.note(1, 1, 2), 0);
  }

  private void noteOfAlteredOutput() {
    begin(5);
    yes("output", pool.output(0, 10, 1, 2, 3));
    int sealed = pool.draft(11);
    yes("sealed", pool.alter(4, (sealed + 1) % 1000));
    yes("balance", pool.balance(-10));
    due("an output may be sealed wrongly", pool.connect(), 1);
    due("not found", pool.note(0, 0, 0), -1);
    due("total", pool.total(0), 0);
    no("spend", pool.spend(0, 0, 0));
    due("pool", pool.pool(), 10);
    due("disconnect", pool.disconnect(), 0);
    yes("output", pool.output(0, 10, 1, 2, 3));
    yes("sealed as it is", pool.alter(4, sealed));
    yes("balance", pool.balance(-10));
    due("connect", pool.connect(), 1);
    due("found", pool.note(0, 0, 0), 10);
  }

  private void total() {
    begin(5, 6);
    due("nothing yet", pool.total(0), 0);
    for (int n = 0; n < 5; n++) {
      bring(0, 999, n);
      bring(1, n, n);
    }
    due("total", pool.total(0), 4995);
    due("other total", pool.total(1), 10);
    yes("spend", pool.spend(0, 4, 1));
    due("a draft spends nothing", pool.total(0), 4995);
    yes("output", pool.output(1, 500, 9, 9, 9));
    yes("balance", pool.balance(499));
    due("connect", pool.connect(), 11);
    due("total less the spent", pool.total(0), 3996);
    due("other total", pool.total(1), 510);
    int[] wrong = {-1, 2, 3, 4, MIN, MAX};
    for (int k : wrong) {
      due("total " + k, pool.total(k), -1);
    }
    due("disconnect", pool.disconnect(), 10);
    due("total again", pool.total(0), 4995);
    due("other total again", pool.total(1), 10);
  }

  private void address() {
    begin(5, 2472);
    due("x", pool.address(0, 0), 5006);
    due("y", pool.address(0, 1), 6493);
    due("x", pool.address(1, 0), 4919);
    due("y", pool.address(1, 1), 9579);
    int[] wrong = {-1, 2, 3, 4, MIN, MAX};
    for (int n : wrong) {
      due("what " + n, pool.address(0, n), -1);
      due("key " + n, pool.address(n, 0), -1);
    }
  }

  private void draft() {
    begin(5);
    bring(0, 10, 1);
    int[] wrong = {-1, 26, 27, -10000, MIN, MAX};
    for (int what : wrong) {
      due("draft " + what, pool.draft(what), -10000);
    }
    yes("spend", pool.spend(0, 0, 3));
    due("one spend", pool.draft(0), 1);
    for (int what = 4; what < 26; what++) {
      boolean there = what == 4 || what == 5 || what == 22 || what == 23;
      due("draft with a spend " + what, pool.draft(what) != -10000 ? 1 : 0, there ? 1 : 0);
    }
    yes("output", pool.output(0, 1, 2, 3, 4));
    due("one output", pool.draft(1), 1);
    for (int what = 15; what < 22; what++) {
      due("draft without a second output", pool.draft(what), -10000);
    }
    due("seal below 0", pool.draft(3), 2472);
    yes("turn", pool.alter(5, 2));
    due("seal with turn", pool.draft(3), 1);
    yes("spend", pool.spend(0, 0, 2472));
    due("seal past the order", pool.draft(3), 0);
    for (int what : wrong) {
      due("draft " + what, pool.draft(what), -10000);
    }
  }

  private void objectsAreApart() {
    begin(5);
    NotePool other = new NotePool();
    bring(0, 10, 1);
    yes("output", pool.output(0, 1, 2, 3, 4));
    due("other's blocks", other.blocks(), 0);
    due("other's draft", other.draft(1), 0);
    due("other's key", other.address(0, 0), -1);
    due("other's root", other.node(4, 0), EMPTY_ROOT);
  }
}
