/** Of promise 8, each sentence that names a boundary case, and the order of the refusals. */
public final class ConnectEdgeTest {
  private static final Check CHECK = new Check();
  /** Leaf 0 of 10 for key 0, leaf 1 of 20 for key 1. */
  private static final String TWO_NOTES =
      "key 5 = 0; key 6 = 1; output 0 10 1 2 3; output 1 20 4 5 6; balance -30; connect = 1;";
  /** The root of the tree whose leaf 0 is the note of 10 with trapdoor 1 of key 5, alone. */
  private static final int FIRST_ROOT = 7164;

  public static void main(String[] args) {
    draftHasNothingBehindIt();
    leavesAreFilledInOrder();
    allKeysLook();
    empty();
    emptyIsNotSpendsOrOutputsAlone();
    anchorsOfTheChain();
    anchorsTakenBack();
    anchorOfABlockWithoutOutputs();
    anchorOfTheSecondSpend();
    proofOfTheValue();
    proofOfTheNullifier();
    proofOfTheAnchor();
    proofOfTheSecondSpend();
    spentInADraft();
    spentInTheFirstAndTheLastBlock();
    spentBySecondSpend();
    spentBeforeItWasThere();
    proofOfOutputs();
    sumOfOneMoreOrLess();
    sumOfTwoAndTwo();
    sumOfBalancesAtTheirEnds();
    sumTurned();
    poolJustNothing();
    poolFarBelow();
    fullOfBlocks();
    fullOfBlocksForSpends();
    fullOfLeaves();
    fullButForOneLeaf();
    orderInAChainFullOfBlocks();
    orderInATreeFullOfLeaves();
    orderOfProofAndSpent();
    orderOfSpends();
    orderOfSpentAndAnchor();
    CHECK.end();
  }

  private static Run run(String sentence) {
    return new Run(CHECK, sentence);
  }

  private static void draftHasNothing(Run run) {
    run.each("0 1 2 3", "draft @ = 0");
    run.each("4 5 6 7 8 9 10 11 12 13 14 15 16 17 18 19 20 21 22 23 24 25", "draft @ = -10000");
  }

  // What connect does.

  private static void draftHasNothingBehindIt() {
    Run run = run("8: how many blocks there are then; the draft has nothing behind it").does(TWO_NOTES);
    draftHasNothing(run);
    run.does("spend 0 0 1; spend 1 1 2; output 0 3 4 5 6; output 1 7 8 9 10; balance 20 = true; connect = 2");
    draftHasNothing(run);
    run.does("output 0 10 1 2 3; alter 5 " + Model.turnFor(-10) + "; connect = 3");
    draftHasNothing(run);
    run.does("connect = EMPTY; output 0 0 0 0 0; connect = 4");
  }

  private static void leavesAreFilledInOrder() {
    Run run = run("8: The commitments of the outputs fill the next leaves, in order").does("key 5 = 0; key 6 = 1");
    run.does("output 0 1 2 3 4; output 1 5 6 7 8; balance -6; connect = 1");
    run.does("node 0 0 = " + Model.commitment(5, 1, 2) + "; node 0 1 = " + Model.commitment(6, 5, 6));
    run.does("node 0 2 = 0; leaves = 2; output 1 9 10 11 12; balance -9; connect = 2; leaves = 3");
    run.does("node 0 2 = " + Model.commitment(6, 9, 10) + "; node 0 3 = 0; spend 1 2 1; balance 9; connect = 3");
    run.does("leaves = 3; node 0 3 = 0; output 1 1 1 1 1; output 0 2 2 2 2; balance -3; connect = 4");
    run.does("node 0 3 = " + Model.commitment(6, 1, 1) + "; node 0 4 = " + Model.commitment(5, 2, 2));
  }

  private static void allKeysLook() {
    run("8: all keys look for them")
        .does("key 5 = 0; key 6 = 1; key 5 = 2; key 7 = 3; output 0 1 2 3 4; output 3 5 6 7 8; balance -6")
        .does("connect = 1; total 0 = 1; total 1 = 0; total 2 = 1; total 3 = 5; note 0 0 0 = 1; note 2 0 1 = 2")
        .does("note 3 1 1 = 6; note 1 0 0 = NONE; note 1 1 0 = NONE; output 1 9 9 9 9; balance -9; connect = 2")
        .does("total 1 = 9; note 1 2 0 = 9; note 0 2 0 = NONE; total 3 = 5");
  }

  // EMPTY.

  private static void empty() {
    Run run = run("8: EMPTY: it has no spend and no output");
    run.does("connect = EMPTY; balance 9999; connect = EMPTY; alter 5 1; connect = EMPTY; draft 2 = 9999; draft 3 = 1");
    run.does("clear; connect = EMPTY; key 5 = 0; output 0 0 0 0 0; clear; connect = EMPTY");
    for (int n = 1; n <= 12; n++) {
      run.does("output 0 0 0 0 0; connect = " + n + "; connect = EMPTY");
    }
    run.does("balance -1; connect = EMPTY");
  }

  private static void emptyIsNotSpendsOrOutputsAlone() {
    run("8: EMPTY: it has no spend and no output (one of them is enough)")
        .does("key 5 = 0; output 0 0 0 0 0; connect = 1; spend 0 0 0; connect = 2; connect = EMPTY");
  }

  // ANCHOR.

  private static void anchorsOfTheChain() {
    Run run = run("8: ANCHOR: its anchor is neither the root of the empty tree nor the root behind some block");
    int[] roots = new int[13];
    run.does("key 5 = 0");
    roots[0] = run.due("node 4 0");
    for (int n = 1; n <= 12; n++) {
      run.does("output 0 " + n + " 1 2 3; balance " + -n + "; connect = " + n);
      roots[n] = run.due("node 4 0");
    }
    run.does("spend 0 0 1; balance 1; alter 0 0; connect = ANCHOR; alter 0 10008; connect = ANCHOR");
    for (int n = 0; n <= 12; n++) {
      run.does("alter 0 " + roots[n] + "; connect = " + (n == 12 ? "FULL" : "PROOF"));
      run.does("alter 0 " + (roots[n] + 1) + "; connect = ANCHOR; alter 0 " + (roots[n] - 1) + "; connect = ANCHOR");
    }
    for (int level = 0; level < 4; level++) {
      run.does("alter 0 " + run.due("node " + level + " 0") + "; connect = ANCHOR");
    }
  }

  private static void anchorsTakenBack() {
    Run run = run("8: ANCHOR: .. nor the root behind some block of the chain (that went out of it)").does(TWO_NOTES);
    run.does("output 0 40 7 8 9; balance -40; connect = 2");
    int gone = run.due("node 4 0");
    run.does("spend 0 0 1; balance 10; disconnect = 1; connect = ANCHOR; clear; output 0 41 7 8 9; balance -41");
    run.does("connect = 2; spend 0 0 1; balance 10; alter 0 " + gone + "; connect = ANCHOR; clear");
    run.does("disconnect = 1; output 0 40 7 8 9; balance -40; connect = 2; spend 0 0 1; balance 10");
    run.does("alter 0 " + gone + "; connect = 3");
  }

  private static void anchorOfABlockWithoutOutputs() {
    run("8: ANCHOR: .. the root behind some block of the chain (which has it from the block before)")
        .does(TWO_NOTES + "spend 0 0 1; balance 10; connect = 2; spend 1 1 1; balance 20; disconnect = 1")
        .does("connect = 2; pool = 10; note 1 1 2 = 1; note 0 0 2 = 0");
  }

  /**
   * Only by a collision can a first spend keep its anchor while the second loses it: the value 2 leads,
   * with the path beside leaf 1 of 20 and trapdoor 0, to the root before that leaf was filled.
   */
  private static void anchorOfTheSecondSpend() {
    String collision = "key 5 = 0; output 0 10 1 2 3; balance -10; connect = 1; node 4 0 = " + FIRST_ROOT
        + "; output 0 20 0 5 6; balance -20; connect = 2; spend 0 0 1; spend 0 1 2; alter 0 " + FIRST_ROOT
        + "; alter 2 2; balance 22;";
    run("8: For each spend in order: ANCHOR (the first is right)").does(collision + "connect = 3; pool = 8");
    run("8: For each spend in order: ANCHOR (of the second)").does(collision + "disconnect = 1; connect = ANCHOR")
        .does("output 0 1 1 1 1; alter 3 1; connect = ANCHOR; balance 9999; connect = ANCHOR");
  }

  // PROOF of spends.

  private static void proofOfTheValue() {
    run("8: PROOF: it is not proven (by its value)")
        .does(TWO_NOTES + "spend 0 0 1").each("0 9 11 999", "alter 2 @; balance @; connect = PROOF")
        .does("alter 2 10; balance 10; connect = 2");
  }

  private static void proofOfTheNullifier() {
    run("8: PROOF: it is not proven (by its nullifier)")
        .does(TWO_NOTES + "spend 0 0 1; balance 10")
        .each("0 4786 4788 10008 " + Model.nullifier(5, 1) + " " + Model.nullifier(6, 0), "alter 1 @; connect = PROOF")
        .does("alter 1 4787; connect = 2; revealed 4787 = true");
  }

  private static void proofOfTheAnchor() {
    Run run = run("8: PROOF: it is not proven (by its path, to another root)");
    run.does("key 5 = 0; output 0 10 1 2 3; balance -10; connect = 1; output 0 21 0 5 6; balance -21; connect = 2");
    int second = run.due("node 4 0");
    run.does("spend 0 0 1; balance 10; alter 0 " + FIRST_ROOT + "; connect = PROOF; alter 0 8711; connect = PROOF");
    run.does("disconnect = 1; alter 0 " + FIRST_ROOT + "; connect = PROOF; alter 0 " + second + "; connect = ANCHOR");
    run.does("clear; spend 0 0 1; balance 10; draft 22 = " + FIRST_ROOT + "; connect = 2");
  }

  private static void proofOfTheSecondSpend() {
    run("8: For each spend in order: PROOF (the first alone is altered)")
        .does(TWO_NOTES + "spend 0 0 1; spend 1 1 2; alter 2 20; balance 40; connect = PROOF; alter 2 10")
        .does("balance 30; connect = 2");
  }

  // SPENT.

  private static void spentInADraft() {
    run("8: SPENT: its nullifier is that of a spend before it")
        .does(TWO_NOTES + "key 5 = 2; spend 0 0 1; spend 0 0 2; balance 20; connect = SPENT; clear; spend 0 0 1")
        .does("spend 2 0 2; balance 20; connect = SPENT; clear; spend 1 1 1; spend 2 0 2; balance 30; connect = 2");
  }

  private static void spentInTheFirstAndTheLastBlock() {
    Run run = run("8: SPENT: its nullifier is revealed").does(TWO_NOTES);
    run.does("spend 0 0 1; balance 10; connect = 2");
    for (int n = 3; n <= 11; n++) {
      run.does("spend 0 0 1; balance 10; connect = SPENT; clear; output 0 0 " + n + " 2 3; connect = " + n);
    }
    run.does("spend 1 1 1; balance 20; connect = 12; spend 1 1 1; balance 20; connect = SPENT");
    run.does("disconnect = 11; connect = 12; spend 0 0 1; balance 10; connect = SPENT");
  }

  private static void spentBySecondSpend() {
    run("8: SPENT: its nullifier is revealed (as that of a second spend)")
        .does(TWO_NOTES + "spend 0 0 1; spend 1 1 2; balance 30; connect = 2; output 0 5 6 7 8; balance -5")
        .does("connect = 3; spend 1 1 1; balance 20; connect = SPENT; clear; spend 0 2 1; spend 1 1 1; balance 25")
        .does("connect = SPENT; clear; spend 0 2 1; balance 5; connect = 4");
  }

  /** A leaf that is 0 can be spent when it was taken back, so its nullifier is revealed before it. */
  private static void spentBeforeItWasThere() {
    run("8: SPENT: its nullifier is revealed (by the first block)")
        .does("key 5 = 0; output 0 0 2193 1 1; connect = 1; spend 0 0 4; disconnect = 0; connect = 1; total 0 = 0")
        .does("output 0 7 8 9 10; balance -7; connect = 2; note 0 0 0 = 7; note 0 0 2 = 1; total 0 = 0")
        .does("spend 0 0 1 = true; balance 7; connect = SPENT; clear; output 0 7 8 9 10; balance -7; connect = 3")
        .does("note 0 1 2 = 0; total 0 = 7; disconnect = 2; disconnect = 1; disconnect = 0; revealed 4787 = false");
  }

  // PROOF of outputs.

  private static void proofOfOutputs() {
    int commitment = Model.commitment(5, 10, 1);
    run("8: For each output: PROOF: it is not proven")
        .does("key 5 = 0; output 0 10 1 2 3; output 0 20 4 5 6; balance -30")
        .each("0 10008 " + (commitment - 1) + " " + (commitment + 1) + " " + Model.commitment(5, 20, 4),
            "alter 3 @; connect = PROOF")
        .does("alter 3 " + commitment + "; alter 4 0; connect = 1; node 0 0 = " + commitment);
  }

  // SUM.

  private static void sumOfOneMoreOrLess() {
    run("8: SUM: the covers .. less [balance]V are not [seal]R")
        .does("key 5 = 0; output 0 10 1 2 3; connect = SUM")
        .each("-11 -9 10 0 1 -1 2462 2464", "balance @; connect = SUM")
        .does("balance -10; connect = 1; spend 0 0 1; connect = SUM")
        .each("9 11 -10 0", "balance @; connect = SUM").does("balance 10; connect = 2");
  }

  private static void sumOfTwoAndTwo() {
    run("8: SUM: the covers of the spends, less those of the outputs")
        .does(TWO_NOTES + "spend 0 0 2472; spend 1 1 2472; output 0 3 4 5 6; output 1 7 8 9 10")
        .each("19 21 -20 30 -10 40", "balance @; connect = SUM").does("balance 20; connect = 2; pool = 10");
  }

  /** As 9999 is 107 modulo 2473. */
  private static void sumOfBalancesAtTheirEnds() {
    run("8: SUM: [balance]V (of a number below 0: -[-balance]V)")
        .does("key 5 = 0; output 0 107 1 2 3").each("-9998 -9997 9999", "balance @; connect = SUM")
        .does("balance -9999; connect = 1; pool = 9999; spend 0 0 1").each("9998 -9999", "balance @; connect = SUM")
        .does("balance 9999; connect = 2; pool = 0; disconnect = 1; clear; spend 0 0 1; balance -2366; connect = 2")
        .does("pool = 12365");
  }

  private static void sumTurned() {
    int turn = Model.turnFor(1);
    run("8: SUM: .. are not [seal]R (with a turn)")
        .does("key 5 = 0; output 0 10 1 2 3; balance -10; alter 5 1; connect = SUM; alter 5 2472; connect = SUM")
        .does("balance -11; alter 5 " + turn + "; connect = 1; output 0 10 1 2 3; balance -9; alter 5 " + turn)
        .does("connect = SUM; alter 5 " + (2473 - turn) + "; connect = 2; pool = 20");
  }

  // POOL.

  private static void poolJustNothing() {
    run("8: POOL: the pool would be below 0")
        .does(TWO_NOTES + "spend 0 0 1; spend 1 1 1; balance 31; alter 5 " + Model.turnFor(-1) + "; connect = POOL")
        .does("balance 30; alter 5 0; connect = 2; pool = 0; output 0 1 2 3 4; balance 0; alter 5 " + Model.turnFor(-1))
        .does("connect = 3; pool = 0; spend 0 2 1; balance 1; connect = POOL; pool = 0");
  }

  private static void poolFarBelow() {
    run("8: POOL: the pool would be below 0 (by the greatest balance)")
        .does("key 5 = 0; output 0 107 1 2 3; balance -2580; connect = 1; pool = 2580; spend 0 0 1")
        .each("9999 7526 5053", "balance @; connect = POOL").does("balance 2580; connect = 2; pool = 0");
  }

  // FULL.

  private static void fullOfBlocks() {
    Run run = run("8: FULL: there are 12 blocks").does("key 5 = 0");
    for (int n = 1; n <= 12; n++) {
      run.does("output 0 1 " + n + " 2 3; balance -1; connect = " + n);
    }
    run.does("leaves = 12; output 0 1 13 2 3; balance -1; connect = FULL; connect = FULL; disconnect = 11");
    run.does("connect = 12; leaves = 12; node 0 11 = " + Model.commitment(5, 1, 13));
  }

  private static void fullOfBlocksForSpends() {
    Run run = run("8: FULL: there are 12 blocks (and no leaf is asked for)").does("key 5 = 0");
    for (int n = 1; n <= 11; n++) {
      run.does("output 0 1 " + n + " 2 3; balance -1; connect = " + n);
    }
    run.does("spend 0 0 1; balance 1; connect = 12; spend 0 1 1; balance 1; connect = FULL; note 0 1 2 = 0");
    run.does("disconnect = 11; connect = 12; note 0 1 2 = 1");
  }

  private static Run eightBlocks(String sentence, int leaves) {
    Run run = run(sentence).does("key 5 = 0");
    for (int n = 1; n <= 8; n++) {
      boolean hasTwo = n <= leaves - 8;
      run.does("output 0 1 " + n + " 2 3; " + (hasTwo ? "output 0 1 " + n + " 4 5; balance -2" : "balance -1"));
      run.does("connect = " + n);
    }
    return run.does("leaves = " + leaves);
  }

  private static void fullOfLeaves() {
    eightBlocks("8: FULL: fewer leaves left than outputs (of no leaf)", 16)
        .does("output 0 1 2 3 4; balance -1; connect = FULL; output 0 1 2 3 4; balance -2; connect = FULL; leaves = 16")
        .does("clear; spend 0 15 1; balance 1; connect = 9; leaves = 16");
    eightBlocks("8: FULL: fewer leaves left than outputs (of two leaves)", 14)
        .does("output 0 1 2 3 4; output 0 1 2 3 4; balance -2; connect = 9; leaves = 16");
  }

  private static void fullButForOneLeaf() {
    eightBlocks("8: FULL: fewer leaves left than outputs (of one leaf)", 15)
        .does("output 0 1 2 3 4; output 0 1 5 3 4; balance -2; connect = FULL; leaves = 15; node 0 15 = 0; clear")
        .does("output 0 1 2 3 4; balance -1; connect = 9; leaves = 16; node 0 15 = " + Model.commitment(5, 1, 2))
        .does("output 0 1 2 3 4; balance -1; connect = FULL; disconnect = 8; connect = 9; leaves = 16");
  }

  // The order: each draft has all the later faults too.

  private static void orderInAChainFullOfBlocks() {
    Run run = run("8: the first of these (in a chain of 12 blocks)");
    run.does("key 5 = 0; output 0 10 1 2 3; balance -10; connect = 1; output 0 20 1 2 3; balance -20; connect = 2");
    run.does("spend 0 0 1; balance 10; connect = 3");
    for (int n = 4; n <= 11; n++) {
      run.does("output 0 0 " + n + " 2 3; connect = " + n);
    }
    run.does("spend 0 2 1; connect = 12; balance 9999; alter 5 1; connect = EMPTY; clear");
    int root = run.due("node 4 0");
    run.does("spend 0 0 1; output 0 1 1 1 1; alter 3 7; balance 9999; alter 0 1; alter 1 1; connect = ANCHOR");
    run.does("alter 0 " + root + "; connect = PROOF; alter 1 4787; connect = SPENT; clear");
    run.does("spend 0 1 1; spend 0 1 2; output 0 1 1 1 1; alter 3 7; balance 9999; connect = SPENT; clear");
    run.does("spend 0 1 1; output 0 1 1 1 1; alter 3 7; balance 9999; connect = PROOF");
    run.does("alter 3 " + Model.commitment(5, 1, 1) + "; connect = SUM; balance 2492; connect = POOL");
    run.does("balance 18; connect = SUM; balance 19; connect = FULL; disconnect = 11; connect = 12");
  }

  private static void orderInATreeFullOfLeaves() {
    Run run = eightBlocks("8: the first of these (in a tree of 16 leaves)", 16);
    run.does("spend 0 0 1; balance 1; connect = 9");
    int root = run.due("node 4 0");
    run.does("spend 0 0 1; output 0 1 1 1 1; alter 3 7; balance 9999; alter 0 1; alter 1 1; connect = ANCHOR");
    run.does("alter 0 " + root + "; connect = PROOF; alter 1 4787; connect = SPENT; clear");
    run.does("spend 0 1 1; output 0 1 1 1 1; alter 3 7; balance 9999; connect = PROOF");
    run.does("alter 3 " + Model.commitment(5, 1, 1) + "; connect = SUM; balance 2473; connect = POOL");
    run.does("balance 0; connect = FULL; clear; spend 0 1 1; balance 1; connect = 10");
  }

  private static void orderOfProofAndSpent() {
    run("8: the first of these (PROOF before SPENT of one spend)")
        .does(TWO_NOTES + "spend 0 0 1; balance 10; connect = 2; spend 0 0 1; alter 2 11; balance 11; connect = PROOF")
        .does("alter 2 10; balance 10; connect = SPENT; clear; spend 1 1 1; balance 20; alter 1 4787; connect = PROOF")
        .does("alter 1 " + Model.nullifier(6, 1) + "; connect = 3");
  }

  private static void orderOfSpends() {
    Run run = run("8: For each spend in order (PROOF of the first before ANCHOR of the second)");
    run.does("key 5 = 0; output 0 10 1 2 3; balance -10; connect = 1; output 0 21 0 5 6; balance -21; connect = 2");
    run.does("spend 0 0 1; spend 0 1 2; balance 31; alter 1 1; alter 0 " + FIRST_ROOT + "; connect = PROOF");
    run.does("disconnect = 1; connect = PROOF; alter 0 1; connect = ANCHOR");
  }

  /** By the collision that anchorOfTheSecondSpend tells of. */
  private static void orderOfSpentAndAnchor() {
    run("8: For each spend in order (SPENT of the first before ANCHOR of the second)")
        .does("key 5 = 0; output 0 10 1 2 3; balance -10; connect = 1; spend 0 0 1; balance 10; connect = 2")
        .does("output 0 20 0 5 6; balance -20; connect = 3; spend 0 0 1; spend 0 1 2; alter 0 " + FIRST_ROOT)
        .does("alter 2 2; balance 22; connect = SPENT; disconnect = 2; connect = SPENT");
    run("8: For each spend in order (ANCHOR of the second before SPENT of the second)")
        .does("key 5 = 0; output 0 10 1 2 3; balance -10; connect = 1; output 0 20 0 5 6; balance -20; connect = 2")
        .does("spend 0 0 1; spend 0 0 2; alter 0 " + FIRST_ROOT + "; alter 2 2; balance 12; connect = SPENT")
        .does("disconnect = 1; connect = ANCHOR");
  }
}
