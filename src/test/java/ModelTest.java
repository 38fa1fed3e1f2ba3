import java.util.Arrays;
import java.util.Map;
import java.util.Random;
import java.util.TreeMap;

/** Runs of calls, drawn with fixed seeds, on the program and on the model: all answers are the same. */
public final class ModelTest {
  private static final int RUNS = 600;
  private static final int MOST_CALLS = 512;
  private static final int[] ODD = {
    Integer.MIN_VALUE, Integer.MAX_VALUE, -10000, -9999, -1, 0, 1, 2, 3, 4, 5, 15, 16, 17, 31,
    999, 1000, 2472, 2473, 2474, 4946, 9999, 10000, 10008, 10009, 0x40000000, -0x40000000
  };

  private final Check check = new Check();
  private final Map<Integer, Integer> connects = new TreeMap<>();
  private Random random;
  private NotePool program;
  private Model model;
  private int run;
  private int calls;
  private int keys;

  public static void main(String[] args) {
    ModelTest test = new ModelTest();
    for (int run = 0; run < RUNS; run++) {
      test.oneRun(run);
    }
    for (int refusal = -8; refusal <= -2; refusal++) {
      test.check.due("runs meet answer " + refusal, test.connects.getOrDefault(refusal, 0) >= 20, true);
    }
    System.out.println("answers of connect: " + test.connects);
    test.check.due("runs meet the twelfth block", test.connects.getOrDefault(12, 0) >= 20, true);
    test.check.end();
  }

  private void oneRun(int run) {
    this.run = run;
    random = new Random(run);
    program = new NotePool();
    model = new Model();
    calls = 0;
    keys = 0;
    // Every other run grows: few blocks are taken back, so that the chain and the tree become full.
    boolean grows = run % 2 == 0;
    key();
    while (calls < MOST_CALLS - 80) {
      int kind = below(100);
      if (kind < 5) {
        key();
      } else if (kind < 70) {
        block(below(4) != 0);
      } else if (kind < (grows ? 71 : 82)) {
        disconnect();
      } else {
        oddCall(below(7));
      }
      for (int n = grows ? 2 : 6; n > 0; n--) {
        question(below(9));
      }
    }
    wholeState();
  }

  private int below(int bound) {
    return random.nextInt(bound);
  }

  private int odd(int bound) {
    int kind = below(8);
    return kind == 0 ? ODD[below(ODD.length)] : kind == 1 ? below(bound + 2) - 1 : below(bound);
  }

  private void due(String call, int[] args, int got, int want) {
    calls++;
    check.due("run " + run + " call " + calls + " " + call + Arrays.toString(args), got, want);
  }

  private static int num(boolean answer) {
    return answer ? 1 : 0;
  }

  private void key() {
    askKey(below(6) == 0 ? odd(2473) : below(3) == 0 ? 7 : 1 + below(2472));
  }

  private void askKey(int s) {
    int want = model.key(s);
    due("key", new int[] {s}, program.key(s), want);
    keys = Math.max(keys, want + 1);
  }

  private void output(int... a) {
    boolean got = program.output(a[0], a[1], a[2], a[3], a[4]);
    due("output", a, num(got), model.output(a[0], a[1], a[2], a[3], a[4]));
  }

  private int spend(int... a) {
    int put = model.spend(a[0], a[1], a[2]);
    due("spend", a, num(program.spend(a[0], a[1], a[2])), put);
    return put;
  }

  private void balance(int b) {
    due("balance", new int[] {b}, num(program.balance(b)), model.balance(b));
  }

  private void alter(int what, int x) {
    due("alter", new int[] {what, x}, num(program.alter(what, x)), model.alter(what, x));
  }

  private void clear() {
    program.clear();
    model.clear();
    calls++;
  }

  private int connect() {
    int want = model.connect();
    due("connect", new int[0], program.connect(), want);
    connects.merge(want, 1, Integer::sum);
    return want;
  }

  private void disconnect() {
    due("disconnect", new int[0], program.disconnect(), model.disconnect());
  }

  /** A draft that is fit to become a block, but for some fault that may be put into it. */
  private void block(boolean fit) {
    clear();
    int missing = 0;
    int among = Math.max(1, keys);
    for (int n = below(3); n > 0; n--) {
      int k = below(among), i = below(Math.max(1, model.leaves()));
      for (int look = 0; look < 16 && (model.note(k, i, 2) != 0 || below(2) == 0); look++) {
        k = below(among);
        i = below(16);
      }
      int value = model.note(k, i, 0);
      missing += spend(k, i, below(2473)) == 1 ? value : 0;
    }
    int many = model.blocks() > 8 ? below(2) : below(3);
    for (int n = many; n > 0; n--) {
      int value = below(4) == 0 ? 0 : below(1000);
      int before = model.draft(1);
      output(below(among), value, below(2473), below(5) == 0 ? 0 : below(2473), below(2473));
      missing -= model.draft(1) > before ? value : 0;
    }
    balance(missing);
    if (!fit) {
      fault(missing);
    }
    if (connect() < 0 && below(3) != 0) {
      clear();
    }
  }

  private void fault(int missing) {
    switch (below(8)) {
      case 0 -> alter(0, below(2) == 0 ? below(10009) : model.node(4, 0));
      case 1 -> alter(1, below(2) == 0 ? below(10009) : Math.max(0, model.note(below(4), below(16), 3)));
      case 2 -> alter(2, below(1000));
      case 3 -> alter(3, below(10009));
      case 4 -> alter(4, below(1000));
      case 5 -> alter(5, below(2473));
      // The values may miss by multiples of the order, or by what a turn makes good.
      case 6 -> balance(missing + 2473 * (below(5) - 2));
      default -> {
        int off = below(400) - 200;
        balance(missing - off);
        alter(5, Model.turnFor(off));
      }
    }
    if (below(6) == 0) {
      disconnect();
    }
  }

  private void oddCall(int kind) {
    switch (kind) {
      case 0 -> askKey(odd(2473));
      case 1 -> spend(odd(4), odd(16), odd(2473));
      case 2 -> output(odd(4), odd(1000), odd(2473), odd(2473), odd(2473));
      case 3 -> balance(odd(10000));
      case 4 -> alter(odd(6), odd(1000));
      case 5 -> alter(odd(6), odd(10009));
      default -> connect();
    }
  }

  private void question(int kind) {
    switch (kind) {
      case 0 -> askDraft(odd(26));
      case 1 -> askDraft(odd(26));
      case 2 -> askNode(odd(5), odd(8));
      case 3 -> askNote(odd(4), odd(16), odd(4));
      case 4 -> askNote(odd(4), odd(16), odd(4));
      case 5 -> askTotal(odd(4));
      case 6 -> askAddress(odd(4), odd(2));
      case 7 -> askRevealed(below(2) == 0 ? model.note(below(4), below(16), 3) : odd(10009));
      default -> askCounts();
    }
  }

  private void askDraft(int what) {
    due("draft", new int[] {what}, program.draft(what), model.draft(what));
  }

  private void askNode(int level, int k) {
    due("node", new int[] {level, k}, program.node(level, k), model.node(level, k));
  }

  private void askNote(int k, int i, int what) {
    due("note", new int[] {k, i, what}, program.note(k, i, what), model.note(k, i, what));
  }

  private void askTotal(int k) {
    due("total", new int[] {k}, program.total(k), model.total(k));
  }

  private void askAddress(int k, int what) {
    due("address", new int[] {k, what}, program.address(k, what), model.address(k, what));
  }

  private void askRevealed(int nullifier) {
    due("revealed", new int[] {nullifier}, num(program.revealed(nullifier)), model.revealed(nullifier));
  }

  private void askCounts() {
    due("blocks", new int[0], program.blocks(), model.blocks());
    due("leaves", new int[0], program.leaves(), model.leaves());
    due("pool", new int[0], program.pool(), model.pool());
  }

  private void wholeState() {
    askCounts();
    for (int k = 0; k < 4; k++) {
      askTotal(k);
    }
    for (int what = 0; what < 26; what++) {
      askDraft(what);
    }
    for (int level = 1; level < 5; level++) {
      for (int k = 0; k < 16 >> level; k++) {
        askNode(level, k);
      }
    }
  }
}
