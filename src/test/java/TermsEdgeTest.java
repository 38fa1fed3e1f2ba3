/** The edges that the document's "Terms" name: where numbers wrap around, meet or become 0. */
public final class TermsEdgeTest {
  private static final Check CHECK = new Check();

  public static void main(String[] args) {
    secretsAtTheEndsOfTheScalars();
    sealedValueWraps();
    sealedTrapdoorWraps();
    sealedNumbersOfZero();
    sealWrapsBelow();
    sealWrapsAbove();
    hashCountsNodesModuloTheOrder();
    commitmentMayBeZero();
    emptyRootIsAnAnchorWithoutBlocks();
    nullifierOfTheFirstAndTheLastLeaf();
    nullifierMayBeZero();
    nullifierOfTwoNotes();
    leafOfTwoKeys();
    poolAtItsGreatest();
    everyLeafOfEveryLevel();
    usedForManyCalls();
    CHECK.end();
  }

  private static Run run(String sentence) {
    return new Run(CHECK, sentence);
  }

  private static void secretsAtTheEndsOfTheScalars() {
    run("[n]P is the sum of n times P; -(x, y) = (-x, y)")
        .does("key 1 = 0; address 0 0 = 5090; address 0 1 = 9579")
        .does("key 2472 = 1; address 1 0 = 4919; address 1 1 = 9579");
  }

  /** The x of [9][5]G is 101 modulo 1000. */
  private static void sealedValueWraps() {
    run("a = (v + x) modulo 1000; v = (a - x) modulo 1000")
        .does("key 5 = 0; output 0 898 0 9 0; draft 11 = 999; output 0 899 0 9 0; draft 18 = 0")
        .does("balance -1797; connect = 1; note 0 0 0 = 898; note 0 1 0 = 899")
        .does("output 0 0 0 9 0; draft 11 = 101; output 0 999 0 9 0; draft 18 = 100")
        .does("balance -999; connect = 2; note 0 2 0 = 0; note 0 3 0 = 999");
  }

  /** The y of [9][5]G is 1218 modulo 2473. */
  private static void sealedTrapdoorWraps() {
    run("b = (t + y) modulo 2473; t = (b - y) modulo 2473")
        .does("key 5 = 0; output 0 0 1254 9 0; draft 12 = 2472; output 0 0 1255 9 0; draft 19 = 0")
        .does("connect = 1; note 0 0 1 = 1254; note 0 1 1 = 1255")
        .does("output 0 0 0 9 0; draft 12 = 1218; output 0 0 2472 9 0; draft 19 = 1217")
        .does("connect = 2; note 0 2 1 = 0; note 0 3 1 = 2472");
  }

  private static void sealedNumbersOfZero() {
    run("[n]P is ZERO = (0, 1) for n = 0")
        .does("key 5 = 0; key 6 = 1; output 0 999 2471 0 0; output 1 0 2472 0 0")
        .does("draft 9 = 0; draft 10 = 1; draft 11 = 999; draft 12 = 2472")
        .does("draft 16 = 0; draft 17 = 1; draft 18 = 0; draft 19 = 0")
        .does("balance -999; connect = 1; note 0 0 0 = 999; note 0 0 1 = 2471")
        .does("note 1 1 0 = 0; note 1 1 1 = 2472; note 1 0 0 = NONE; note 0 1 0 = NONE");
  }

  private static void sealWrapsBelow() {
    run("The SEAL: less the w of its outputs (a scalar)")
        .does("key 5 = 0; draft 3 = 0; output 0 0 0 0 1; draft 3 = 2472; alter 5 1; draft 3 = 0")
        .does("alter 5 2472; draft 3 = 2471; clear; output 0 0 0 0 2472; draft 3 = 1")
        .does("output 0 0 1 0 2472; draft 3 = 2; connect = 1");
  }

  private static void sealWrapsAbove() {
    run("The SEAL: the w of its spends, plus the turn (a scalar)")
        .does("key 5 = 0; output 0 0 0 0 0; output 0 0 1 0 0; connect = 1")
        .does("spend 0 0 2472; draft 3 = 2472; alter 5 1; draft 3 = 0; alter 5 2472; draft 3 = 2471")
        .does("spend 0 1 2472; draft 3 = 2470; alter 5 2; draft 3 = 0; alter 5 0; draft 3 = 2471")
        .does("output 0 0 0 0 2471; draft 3 = 0; connect = 2");
  }

  /** With trapdoor 1 the notes of 150 and of 5 have the commitments 4995 and 49 = 4995 - 2 * 2473. */
  private static void hashCountsNodesModuloTheOrder() {
    run("the x of [a]A + [b]B + [m + 1]G, where [2473] is ZERO")
        .does("key 5 = 0; output 0 150 1 3 4; draft 8 = 4995; balance -150; connect = 1")
        .does("spend 0 0 9; alter 2 6; balance 6; connect = PROOF; alter 2 5; balance 5; connect = 2")
        .does("pool = 145; total 0 = 0; note 0 0 0 = 150; note 0 0 2 = 1");
  }

  private static void commitmentMayBeZero() {
    run("16 LEAVES, filled from leaf 0 on with commitments; others are 0")
        .does("key 5 = 0; output 0 33 1566 2 3; draft 8 = 0; balance -33; connect = 1")
        .does("leaves = 1; node 0 0 = 0; node 4 0 = 8711; note 0 0 0 = 33; note 0 0 1 = 1566")
        .does("note 0 1 0 = NONE; spend 0 1 0 = false; total 0 = 33; key 5 = 1; total 1 = 33")
        .does("output 0 1 2 3 4; balance -1; connect = 2; leaves = 2; note 0 1 0 = 1; total 0 = 34")
        .does("spend 0 0 7 = true; balance 33; connect = 3; total 0 = 1; note 0 0 2 = 1")
        .does("disconnect = 2; disconnect = 1; disconnect = 0; note 0 0 0 = NONE; total 0 = 0");
  }

  /** The leaf is 0, so the spend's anchor is the root that the tree has when it is empty again. */
  private static void emptyRootIsAnAnchorWithoutBlocks() {
    run("ANCHOR: its anchor is neither the root of the empty tree nor ..")
        .does("key 5 = 0; output 0 0 2193 1 1; connect = 1; spend 0 0 4 = true; draft 22 = 8711")
        .does("disconnect = 0; connect = 1; blocks = 1; leaves = 0; node 4 0 = 8711")
        .does("revealed " + Model.nullifier(5, 0) + " = true");
  }

  private static void nullifierOfTheFirstAndTheLastLeaf() {
    Run run = run("the x of [s]A + [i + 1]B").does("key 5 = 0; key 6 = 1");
    for (int n = 1; n <= 8; n++) {
      run.does("output 0 0 " + n + " 0 0; output 1 0 " + n + " 0 0; connect = " + n);
    }
    run.does("note 0 0 3 = 4787; note 1 15 3 = " + Model.x(6L * Model.A + 16L * Model.B))
        .does("spend 1 15 1 = true; draft 23 = " + Model.x(6L * Model.A + 16L * Model.B))
        .does("connect = 9; note 1 15 2 = 1; note 0 0 2 = 0");
  }

  private static void nullifierMayBeZero() {
    run("The REVEALED nullifiers are those of the spends of all its blocks")
        .does("key 1144 = 0; output 0 20 1 2 3; balance -20; connect = 1; note 0 0 3 = 0")
        .does("revealed 0 = false; note 0 0 2 = 0; total 0 = 20; spend 0 0 1; draft 23 = 0")
        .does("revealed 0 = false; balance 20; connect = 2; revealed 0 = true; note 0 0 2 = 1")
        .does("total 0 = 0; spend 0 0 1; balance 20; connect = SPENT")
        .does("disconnect = 1; revealed 0 = false; connect = 2");
  }

  /** Keys 5 and 1149 have the same nullifier, of leaf 0 and of leaf 1. */
  private static void nullifierOfTwoNotes() {
    run("It is SPENT if its nullifier by that key is revealed")
        .does("key 5 = 0; key 1149 = 1; output 0 10 1 2 3; output 1 20 4 5 6; balance -30; connect = 1")
        .does("note 0 0 3 = 4787; note 1 1 3 = 4787; spend 0 0 1; spend 1 1 1; balance 30")
        .does("connect = SPENT; clear; spend 0 0 1; balance 10; connect = 2; note 1 1 2 = 1")
        .does("total 1 = 0; note 1 1 0 = 20; spend 1 1 1 = true; balance 20; connect = SPENT")
        .does("disconnect = 1; note 1 1 2 = 0; total 1 = 20; connect = 2; note 0 0 2 = 1; total 0 = 0");
  }

  /** By chance the sealed numbers of an output to key 5 open for key 6 too, to another note. */
  private static void leafOfTwoKeys() {
    run("A key FINDS a leaf if the commitment of the note of its address, v and t is the leaf")
        .does("key 5 = 0; key 6 = 1; output 0 100 7 641 3; balance -100; connect = 1")
        .does("note 0 0 0 = 100; note 0 0 1 = 7; note 1 0 0 = 653; note 1 0 1 = 1809")
        .does("total 0 = 100; total 1 = 653; output 0 999 1 1 1; balance -999; connect = 2")
        .does("spend 0 0 1 = true; spend 1 0 2 = true; balance 753; connect = 3; pool = 346")
        .does("note 0 0 2 = 1; note 1 0 2 = 1; total 0 = 999; total 1 = 0");
  }

  /** As 9999 is 107 modulo 2473, an output of 107 lets 9999 go into the pool. */
  private static void poolAtItsGreatest() {
    Run run = run("The POOL: 0, less the balances of all blocks").does("key 5 = 0");
    for (int n = 1; n <= 12; n++) {
      run.does("output 0 107 " + n + " 1 2; balance -9999; connect = " + n + "; pool = " + 9999 * n);
    }
    run.does("disconnect = 11; pool = 109989; spend 0 0 5; balance 9999; connect = 12; pool = 99990");
  }

  private static void everyLeafOfEveryLevel() {
    Run run = run("A NODE k of level m + 1: the hash of nodes 2 k and 2 k + 1 of level m");
    run.does("key 5 = 0; node 1 7 = 5090; node 4 0 = 8711");
    for (int n = 1; n <= 8; n++) {
      run.does("output 0 " + n + " 1 2 3; output 0 " + n + " 4 5 6; balance " + -2 * n + "; connect");
      for (int level = 0; level <= 4; level++) {
        int above = 2 * n - 1 >> level;
        run.does("node " + level + " " + above);
        run.does("node " + level + " " + ((16 >> level) - 1));
      }
    }
  }

  private static void usedForManyCalls() {
    Run run = run("An object is used for at most 512 calls").does("key 5 = 0; output 0 1 2 3 4");
    for (int n = 0; n < 100; n++) {
      run.does("balance -1 = true; connect = 1; key 0 = NONE; disconnect = 0; output 0 1 2 3 4 = true");
    }
    run.each("1 2 3 4 5", "spend 0 0 0 = false").does("balance -1; connect = 1; total 0 = 1; leaves = 1");
    run.does("disconnect = 0");
  }
}
