/** Of promises 1 to 7 and 9 to 18, each sentence that names a boundary case, in a run of its own. */
public final class EdgeTest {
  private static final Check CHECK = new Check();
  private static final String NO_SCALARS = "-1 -2 -2473 -2472 2473 2474 4946 10009 65536 MIN MAX";
  private static final String NO_FIELD_NUMBERS = "-1 -10008 -10009 10009 10010 20018 65536 MIN MAX";
  private static final String NO_VALUES = "-1 -999 -1000 1000 1001 2000 65536 MIN MAX";
  /** Leaf 0 of 10 for key 0, leaf 1 of 20 for key 1. */
  private static final String TWO_NOTES =
      "key 5 = 0; key 6 = 1; output 0 10 1 2 3; output 1 20 4 5 6; balance -30; connect = 1;";

  public static void main(String[] args) {
    newObject();
    keyNumbers();
    keyWhenThereAreFour();
    keySecrets();
    keyLooksThroughAnEmptyChain();
    keyLooksThroughAFullTree();
    keyLooksThroughWhatWasTakenBack();
    keyDoesNotLookAtTheDraft();
    clearOfAFullDraft();
    clearOfBalanceOrTurnAlone();
    spendKeys();
    spendLeaves();
    spendLastLeaf();
    spendNotFound();
    spendTakenBack();
    spendWhenThereAreTwo();
    spendScalars();
    spendOfASpentLeaf();
    outputKeys();
    outputValues();
    outputScalars();
    outputWhenThereAreTwo();
    balanceEnds();
    alterWhats();
    alterAnchor();
    alterNullifier();
    alterValue();
    alterCommitment();
    alterSealed();
    alterTurn();
    alterWithoutSpend();
    alterWithoutOutput();
    alterOnlyTheFirst();
    disconnectNone();
    disconnectBlocksOfEachSize();
    disconnectFromFull();
    disconnectKeepsTheDraft();
    blocksFromNoneToMost();
    leavesFromNoneToMost();
    nodeLevels();
    nodesOfEachLevel();
    poolFromNothing();
    revealedExactly();
    revealedBeyondTheField();
    noteKeys();
    noteLeaves();
    noteWhats();
    noteSpent();
    totalKeys();
    totalFromNothingToMost();
    totalOfSpentAndNotFound();
    addressKeysAndWhats();
    draftOfEachSize();
    draftWhats();
    draftBalance();
    CHECK.end();
  }

  private static Run run(String sentence) {
    return new Run(CHECK, sentence);
  }

  private static void draftHasNothing(Run run) {
    run.each("0 1 2 3", "draft @ = 0");
    run.each("4 5 6 7 8 9 10 11 12 13 14 15 16 17 18 19 20 21 22 23 24 25", "draft @ = -10000");
  }

  /** Two leaves to each of eight blocks, the first for key 0 and the second for key 1. */
  private static Run fullTree(String sentence, int value) {
    Run run = run(sentence).does("key 5 = 0; key 6 = 1");
    for (int n = 1; n <= 8; n++) {
      run.does("output 0 " + value + " " + n + " 2 3; output 1 " + value + " " + n + " 5 6");
      run.does("balance " + -2 * value + "; connect = " + n);
    }
    return run;
  }

  // Promise 1.

  private static void newObject() {
    Run run = run("1: No keys, no blocks; the draft has nothing, its balance and turn are 0");
    run.does("address 0 0 = NONE; address 0 1 = NONE; total 0 = NONE; note 0 0 0 = NONE");
    run.does("spend 0 0 0 = false; output 0 0 0 0 0 = false; blocks = 0; leaves = 0; pool = 0");
    run.does("node 0 0 = 0; node 0 15 = 0; node 4 0 = 8711; revealed 0 = false");
    draftHasNothing(run);
    run.does("connect = EMPTY; disconnect = NONE; key 1 = 0");
  }

  // Promise 2.

  private static void keyNumbers() {
    run("2: Makes a key with a secret: its number")
        .does("key 9 = 0; key 9 = 1; key 0 = NONE; key 2473 = NONE; address 2 0 = NONE; key 7 = 2")
        .does("address 2 0; address 3 0 = NONE; key 6 = 3");
  }

  private static void keyWhenThereAreFour() {
    run("2: NONE when there are 4")
        .does("key 1 = 0; key 2 = 1; key 3 = 2; total 3 = NONE; key 5 = 3; total 3 = 0")
        .does("key 6 = NONE; key 1 = NONE; key 2472 = NONE; key 0 = NONE; total 4 = NONE")
        .does("address 3 0 = 5006; address 3 1 = 6493; address 0 0 = 5090; clear; key 6 = NONE")
        .does("output 3 0 0 0 0; connect = 1; disconnect = 0; key 6 = NONE");
  }

  private static void keySecrets() {
    run("2: NONE when s is not 1 .. 2472")
        .does("key 0 = NONE").each(NO_SCALARS, "key @ = NONE")
        .does("address 0 0 = NONE; key 1 = 0; key 2472 = 1; key 2 = 2; key 2471 = 3");
  }

  private static void keyLooksThroughAnEmptyChain() {
    run("2: It looks through the whole chain at once (of no blocks)")
        .does("key 5 = 0; total 0 = 0; note 0 0 0 = NONE; note 0 15 0 = NONE; spend 0 0 0 = false");
  }

  private static void keyLooksThroughAFullTree() {
    fullTree("2: It looks through the whole chain at once", 7)
        .does("spend 0 0 1; spend 0 2 1; balance 14; connect = 9; key 5 = 2; key 6 = 3")
        .does("note 2 0 0 = 7; note 2 0 1 = 1; note 2 0 2 = 1; note 2 2 2 = 1; note 2 4 2 = 0")
        .does("note 2 14 1 = 8; note 2 15 0 = NONE; note 3 15 0 = 7; note 3 15 1 = 8")
        .does("note 3 0 0 = NONE; note 3 1 1 = 1; total 2 = 42; total 3 = 56");
  }

  private static void keyLooksThroughWhatWasTakenBack() {
    run("2: It looks through the chain (not through blocks that went out of it)")
        .does(TWO_NOTES + "output 0 40 7 8 9; balance -40; connect = 2; disconnect = 1")
        .does("key 5 = 2; total 2 = 10; note 2 2 0 = NONE; disconnect = 0; key 6 = 3; total 3 = 0")
        .does("output 0 1 2 3 4; balance -1; connect = 1; total 2 = 1; total 3 = 0; note 2 0 0 = 1");
  }

  private static void keyDoesNotLookAtTheDraft() {
    run("2: It looks through the chain (of which a draft is no part)")
        .does("key 5 = 0; output 0 10 1 2 3; balance -10; key 5 = 1; total 1 = 0; note 1 0 0 = NONE")
        .does("connect = 1; total 1 = 10; note 1 0 0 = 10");
  }

  // Promise 3.

  private static void clearOfAFullDraft() {
    Run run = run("3: The draft has nothing, its balance and turn are 0").does(TWO_NOTES);
    run.does("spend 0 0 1; spend 1 1 2; output 0 1 2 3 4; output 1 5 6 7 8; balance 9; alter 5 10");
    run.does("draft 0 = 2; draft 1 = 2; draft 2 = 9; draft 3 = 1; clear");
    draftHasNothing(run);
    run.does("connect = EMPTY; blocks = 1; leaves = 2; pool = 30; total 0 = 10; total 1 = 20; clear");
    draftHasNothing(run);
    run.does("spend 0 0 1 = true; spend 1 1 2 = true; output 0 1 2 3 4 = true");
    run.does("output 1 5 6 7 8 = true; draft 3 = 2464; balance 24; connect = 2");
  }

  private static void clearOfBalanceOrTurnAlone() {
    Run run = run("3: its balance and turn are 0").does("balance -9999; clear");
    draftHasNothing(run);
    run.does("alter 5 2472; clear");
    draftHasNothing(run);
  }

  // Promise 4.

  private static void spendKeys() {
    run("4: false when there is no such key")
        .does(TWO_NOTES).each("-1 2 3 4 5 MIN MAX", "spend @ 0 0 = false; spend @ 1 0 = false")
        .does("draft 0 = 0; spend 0 0 0 = true; spend 1 1 0 = true; draft 0 = 2; key 5 = 2; clear")
        .does("spend 2 0 0 = true; spend 3 0 0 = false; key 6 = 3; spend 3 1 0 = true; spend 4 1 0 = false");
  }

  private static void spendLeaves() {
    run("4: false when it does not find that leaf (that is not filled)")
        .does("key 5 = 0; spend 0 0 0 = false; output 0 10 1 2 3; balance -10; spend 0 0 0 = false")
        .does("connect = 1").each("-1 1 2 15 16 17 31 32 MIN MAX", "spend 0 @ 0 = false")
        .does("draft 0 = 0; spend 0 0 0 = true; draft 0 = 1");
  }

  private static void spendLastLeaf() {
    fullTree("4: false when it does not find that leaf (of a full tree)", 3)
        .does("spend 0 0 0 = true; spend 0 15 0 = false; spend 0 14 0 = true; clear; spend 1 16 0 = false")
        .does("spend 1 -1 0 = false; spend 1 14 0 = false; spend 1 15 0 = true; spend 1 1 0 = true")
        .does("balance 6; connect = 9; total 1 = 18");
  }

  private static void spendNotFound() {
    run("4: false when it does not find that leaf (of another key, or wrongly sealed)")
        .does(TWO_NOTES + "spend 0 1 0 = false; spend 1 0 0 = false; output 0 40 7 8 9")
        .does("alter 4 " + (Model.x(5 * 8) + 41) % 1000 + "; balance -40; connect = 2; spend 0 2 0 = false")
        .does("note 0 2 0 = NONE; draft 0 = 0; total 0 = 10");
  }

  private static void spendTakenBack() {
    run("4: false when it does not find that leaf (that was taken back)")
        .does(TWO_NOTES + "disconnect = 0; spend 0 0 0 = false; spend 1 1 0 = false")
        .does("output 1 20 4 5 6; balance -20; connect = 1; spend 0 0 0 = false; spend 1 1 0 = false")
        .does("spend 1 0 0 = true");
  }

  private static void spendWhenThereAreTwo() {
    run("4: false when the draft has 2 spends")
        .does(TWO_NOTES + "spend 0 0 1 = true; spend 0 0 2 = true; spend 0 0 3 = false; draft 0 = 2")
        .does("draft 3 = 3; spend 1 1 4 = false; draft 23 = 4787; draft 25 = 4787; clear")
        .does("spend 1 1 4 = true; draft 0 = 1; spend 0 0 1 = true; spend 0 0 1 = false; balance 30")
        .does("connect = 2; spend 0 0 1 = true; spend 1 1 1 = true; spend 1 1 1 = false");
  }

  private static void spendScalars() {
    run("4: false when w is no scalar")
        .does(TWO_NOTES).each(NO_SCALARS, "spend 0 0 @ = false")
        .does("draft 0 = 0; draft 3 = 0; spend 0 0 0 = true; draft 3 = 0; spend 0 0 2472 = true; draft 3 = 2472");
  }

  private static void spendOfASpentLeaf() {
    run("4: false when .. (that the leaf is spent is no ground)")
        .does(TWO_NOTES + "spend 0 0 1; balance 10; connect = 2; note 0 0 2 = 1; spend 0 0 1 = true")
        .does("draft 23 = 4787; draft 4; draft 5; balance 10; connect = SPENT");
  }

  // Promise 5.

  private static void outputKeys() {
    run("5: false when there is no such key")
        .does("output 0 1 1 1 1 = false; key 5 = 0; output 1 1 1 1 1 = false; key 6 = 1")
        .each("-1 2 3 4 5 MIN MAX", "output @ 1 1 1 1 = false")
        .does("draft 1 = 0; output 0 1 1 1 1 = true; output 1 1 1 1 1 = true; clear; key 7 = 2; key 8 = 3")
        .does("output 4 1 1 1 1 = false; output 3 1 1 1 1 = true; draft 1 = 1");
  }

  private static void outputValues() {
    run("5: false when v is not 0 .. 999")
        .does("key 5 = 0").each(NO_VALUES, "output 0 @ 1 1 1 = false")
        .does("draft 1 = 0; output 0 0 1 1 1 = true; output 0 999 1 1 1 = true; balance -999; connect = 1")
        .does("note 0 0 0 = 0; note 0 1 0 = 999");
  }

  private static void outputScalars() {
    run("5: false when t, e or w is no scalar")
        .does("key 5 = 0").each(NO_SCALARS, "output 0 1 @ 1 1 = false; output 0 1 1 @ 1 = false")
        .each(NO_SCALARS, "output 0 1 1 1 @ = false; draft 1 = 0; draft 3 = 0")
        .does("output 0 1 0 0 0 = true; draft 9 = 0; draft 10 = 1; draft 3 = 0")
        .does("output 0 1 2472 2472 2472 = true; draft 16 = 4919; draft 17 = 9579; draft 3 = 1");
    run("5: false when t is no scalar").does("key 5 = 0; output 0 1 0 1 1 = true; output 0 1 2472 1 1 = true");
    run("5: false when e is no scalar").does("key 5 = 0; output 0 1 1 0 1 = true; output 0 1 1 2472 1 = true");
    run("5: false when w is no scalar").does("key 5 = 0; output 0 1 1 1 0 = true; output 0 1 1 1 2472 = true");
  }

  private static void outputWhenThereAreTwo() {
    run("5: false when the draft has 2 outputs")
        .does("key 5 = 0; output 0 1 2 3 4 = true; output 0 1 2 3 4 = true; output 0 9 9 9 9 = false")
        .does("draft 1 = 2; draft 3 = 2465; clear; output 0 5 6 7 8 = true; draft 1 = 1")
        .does("output 0 5 6 7 8 = true; output 0 5 6 7 8 = false; balance -10; connect = 1")
        .does("output 0 1 2 3 4 = true; output 0 1 2 3 4 = true; output 0 1 2 3 4 = false");
  }

  // Promise 6.

  private static void balanceEnds() {
    run("6: The balance becomes b; false when it is not -9999 .. 9999")
        .does("balance -9999 = true; draft 2 = -9999; balance 9999 = true; draft 2 = 9999")
        .each("-10000 -10001 10000 10001 65536 MIN MAX", "balance @ = false; draft 2 = 9999")
        .each("0 1 -1 9998 -9998", "balance @ = true; draft 2 = @")
        .does("balance -10000 = false; draft 2 = -9998; draft 0 = 0; draft 1 = 0; draft 3 = 0");
  }

  // Promise 7.

  private static void alterWhats() {
    run("7: False when there is no such what")
        .does(TWO_NOTES + "spend 0 0 1; output 0 1 2 3 4")
        .each("-1 -2 6 7 8 256 MIN MAX", "alter @ 0 = false; alter @ 1 = false; draft 3 = 2470")
        .each("0 1 2 3 4 5", "alter @ 0 = true");
  }

  private static void alterAnchor() {
    run("7: 0 the anchor of its first spend becomes x (of the field)")
        .does(TWO_NOTES + "spend 0 0 1; alter 0 0 = true; draft 22 = 0; alter 0 10008 = true; draft 22 = 10008")
        .each(NO_FIELD_NUMBERS, "alter 0 @ = false; draft 22 = 10008").does("connect = ANCHOR");
  }

  private static void alterNullifier() {
    run("7: 1 the nullifier of its first spend becomes x (of the field)")
        .does(TWO_NOTES + "spend 0 0 1; alter 1 0 = true; draft 23 = 0; alter 1 10008 = true; draft 23 = 10008")
        .each(NO_FIELD_NUMBERS, "alter 1 @ = false; draft 23 = 10008")
        .does("connect = PROOF; note 0 0 3 = 4787; alter 1 4787; balance 10; connect = 2");
  }

  private static void alterValue() {
    int coverOf0 = Model.x(Model.R);
    int coverOf999 = Model.x(999L * Model.V + Model.R);
    run("7: 2 the value of its first spend becomes x (0 .. 999, with its cover)")
        .does(TWO_NOTES + "spend 0 0 1; alter 2 0 = true; draft 4 = " + coverOf0 + "; draft 5")
        .does("alter 2 999 = true; draft 4 = " + coverOf999 + "; draft 5; draft 3 = 1")
        .each(NO_VALUES, "alter 2 @ = false; draft 4 = " + coverOf999)
        .does("balance 999; connect = PROOF; note 0 0 0 = 10; alter 2 10; balance 10; connect = 2");
  }

  private static void alterCommitment() {
    run("7: 3 the commitment of its first output becomes x (of the field)")
        .does("key 5 = 0; output 0 10 1 2 3; alter 3 0 = true; draft 8 = 0; alter 3 10008 = true; draft 8 = 10008")
        .each(NO_FIELD_NUMBERS, "alter 3 @ = false; draft 8 = 10008")
        .does("balance -10; connect = PROOF; alter 3 " + Model.commitment(5, 10, 1) + "; connect = 1");
  }

  private static void alterSealed() {
    run("7: 4 its first sealed number becomes x (0 .. 999)")
        .does("key 5 = 0; output 0 10 1 0 3; draft 11 = 10; alter 4 0 = true; draft 11 = 0; alter 4 999 = true")
        .does("draft 11 = 999").each(NO_VALUES, "alter 4 @ = false; draft 11 = 999")
        .does("draft 12 = 2; balance -10; connect = 1; note 0 0 0 = NONE");
  }

  private static void alterTurn() {
    run("7: 5 the turn becomes x (a scalar)")
        .does("alter 5 0 = true; draft 3 = 0; alter 5 2472 = true; draft 3 = 2472")
        .each(NO_SCALARS, "alter 5 @ = false; draft 3 = 2472").does("alter 5 1 = true; draft 3 = 1");
  }

  private static void alterWithoutSpend() {
    run("7: False when there is no such spend")
        .does(TWO_NOTES + "alter 0 1 = false; alter 1 1 = false; alter 2 1 = false; output 0 1 2 3 4")
        .does("alter 0 1 = false; alter 1 1 = false; alter 2 1 = false; spend 0 0 5; alter 0 1 = true")
        .does("alter 1 1 = true; alter 2 1 = true; clear; alter 0 1 = false; alter 1 1 = false")
        .does("alter 2 1 = false; spend 0 0 5; balance 10; connect = 2; alter 0 1 = false; alter 2 1 = false");
  }

  private static void alterWithoutOutput() {
    run("7: False when there is no such output")
        .does(TWO_NOTES + "alter 3 1 = false; alter 4 1 = false; spend 0 0 5; alter 3 1 = false")
        .does("alter 4 1 = false; output 0 10 2 3 4; alter 3 1 = true; alter 4 1 = true; clear")
        .does("alter 3 1 = false; alter 4 1 = false; output 0 1 2 3 4; balance -1; connect = 2")
        .does("alter 3 1 = false; alter 4 1 = false; alter 5 1 = true");
  }

  private static void alterOnlyTheFirst() {
    Run run = run("7: of its first spend, of its first output");
    run.does(TWO_NOTES + "spend 0 0 1; spend 1 1 2; output 0 3 4 5 6; output 1 7 8 9 10");
    run.does("alter 0 11; alter 1 12; alter 2 13; alter 3 14; alter 4 15; alter 5 16");
    run.each("4 5 6 7 8 9 10 11 12 13 14 15 16 17 18 19 20 21 22 23 24 25", "draft @");
    run.does("draft 8 = 14; draft 11 = 15; draft 22 = 11; draft 23 = 12; draft 3 = 3");
    run.does("draft 15 = " + Model.commitment(6, 7, 8) + "; draft 25 = " + Model.nullifier(6, 1));
  }

  // Promise 9.

  private static void disconnectNone() {
    run("9: NONE when there is none")
        .does("disconnect = NONE; key 5 = 0; disconnect = NONE; output 0 1 2 3 4; balance -1; disconnect = NONE")
        .does("connect = 1; disconnect = 0; disconnect = NONE; disconnect = NONE; blocks = 0; leaves = 0")
        .does("pool = 0; output 0 1 2 3 4; balance -1; connect = 1; disconnect = 0");
  }

  private static void disconnectBlocksOfEachSize() {
    Run run = run("9: The latest block goes out of the chain, its leaves become 0");
    run.does(TWO_NOTES + "spend 0 0 1; balance 10; connect = 2; output 0 5 6 7 8; balance -5; connect = 3");
    run.does("leaves = 3; disconnect = 2; leaves = 2; node 0 2 = 0; node 0 1; pool = 20; total 0 = 0");
    run.does("disconnect = 1; leaves = 2; node 0 1; node 0 0; pool = 30; revealed 4787 = false; total 0 = 10");
    run.does("disconnect = 0; leaves = 0; node 0 1 = 0; node 0 0 = 0; node 1 0 = 5090; node 4 0 = 8711");
    run.does("pool = 0; total 0 = 0; total 1 = 0; note 0 0 0 = NONE; note 1 1 0 = NONE; address 1 0");
  }

  private static void disconnectFromFull() {
    Run run = fullTree("9: how many blocks there are then", 2);
    for (int n = 9; n <= 12; n++) {
      run.does("spend 0 " + 2 * (n - 9) + " 1; balance 2; connect = " + n);
    }
    run.does("output 0 0 0 0 0; connect = FULL; clear");
    for (int n = 11; n >= 0; n--) {
      run.does("disconnect = " + n + "; blocks = " + n + "; leaves = " + Math.min(16, 2 * n));
      run.does("total 0 = " + (n > 8 ? 16 - 2 * (n - 8) : 2 * n) + "; total 1; node 4 0; pool");
    }
    run.does("disconnect = NONE; node 4 0 = 8711; pool = 0");
  }

  private static void disconnectKeepsTheDraft() {
    Run run = run("9: The latest block goes out of the chain (and the draft stays)");
    run.does(TWO_NOTES + "spend 0 0 1; output 0 3 4 5 6; output 1 7 8 9 10; balance 11; alter 5 12");
    run.does("draft 22 = " + Model.hash(Model.hash(Model.hash(Model.hash(Model.commitment(5, 10, 1),
        Model.commitment(6, 20, 4), 1), 5090, 2), emptyNode(2), 3), emptyNode(3), 4));
    run.does("disconnect = 0; draft 0 = 1; draft 1 = 2; draft 2 = 11; draft 3 = 2470; draft 23 = 4787");
    run.each("4 5 6 8 9 10 11 12 13 14 15 16 17 18 19 20 21 22 24", "draft @");
    run.does("connect = ANCHOR; draft 0 = 1; disconnect = NONE; draft 1 = 2");
  }

  private static int emptyNode(int level) {
    return level == 0 ? 0 : Model.hash(emptyNode(level - 1), emptyNode(level - 1), level);
  }

  // Promises 10 and 11.

  private static void blocksFromNoneToMost() {
    Run run = run("10: How many blocks there are").does("key 5 = 0; blocks = 0");
    for (int n = 1; n <= 12; n++) {
      run.does("output 0 0 0 0 0; blocks = " + (n - 1) + "; connect = " + n + "; blocks = " + n);
    }
    run.does("output 0 0 0 0 0; connect = FULL; blocks = 12; disconnect = 11; blocks = 11; clear; blocks = 11");
    run.does("connect = EMPTY; blocks = 11");
  }

  private static void leavesFromNoneToMost() {
    Run run = run("11: How many leaves are filled").does("key 5 = 0; leaves = 0");
    for (int n = 1; n <= 8; n++) {
      run.does("output 0 0 0 0 0; output 0 0 1 0 0; leaves = " + 2 * (n - 1) + "; connect; leaves = " + 2 * n);
    }
    run.does("output 0 0 0 0 0; connect = FULL; leaves = 16; clear; spend 0 0 0; connect = 9; leaves = 16");
    run.does("disconnect = 8; leaves = 16; disconnect = 7; leaves = 14; output 0 0 0 0 0; connect; leaves = 15");
  }

  // Promise 12.

  private static void nodeLevels() {
    run("12: NONE when there is none (of levels)")
        .each("-1 -2 5 6 31 32 33 36 -28 64 MIN MAX", "node @ 0 = NONE; node @ -1 = NONE; node @ 1 = NONE")
        .does("node 0 0 = 0; node 4 0 = 8711");
  }

  private static void nodesOfEachLevel() {
    Run run = run("12: NONE when there is none (of nodes)");
    for (int level = 0; level <= 4; level++) {
      int last = (16 >> level) - 1;
      run.does("node " + level + " 0 = " + emptyNode(level) + "; node " + level + " " + last);
      run.each("-1 -2 16 17 31 32 MIN MAX " + (last + 1) + " " + (last + 2), "node " + level + " @ = NONE");
    }
  }

  // Promise 13.

  private static void poolFromNothing() {
    run("13: The pool")
        .does("pool = 0; key 5 = 0; balance -5; pool = 0; output 0 5 1 2 3; pool = 0; connect = 1; pool = 5")
        .does("spend 0 0 1; balance 4; connect = SUM; pool = 5; output 0 1 2 3 4; connect = 2; pool = 1")
        .does("spend 0 1 1; balance 1; connect = 3; pool = 0; disconnect = 2; pool = 1; disconnect = 1; pool = 5");
  }

  // Promise 14.

  /** Each object is asked no more often than the document allows, so many objects are made. */
  private static void revealedExactly() {
    String recipe = TWO_NOTES + "output 0 7 7 7 7; balance -7; connect = 2; spend 0 0 1; spend 1 1 2;"
        + "balance 30; connect = 3; spend 0 2 1; balance 7; connect = 4; disconnect = 3; spend 0 2 1";
    int first = Model.nullifier(5, 0);
    int second = Model.nullifier(6, 1);
    for (int from = 0; from <= 10008; from += 400) {
      Run run = run("14: Whether a nullifier is revealed").does(recipe);
      for (int n = from; n < from + 400 && n <= 10008; n++) {
        run.does("revealed " + n + " = " + (n == first || n == second));
      }
    }
  }

  private static void revealedBeyondTheField() {
    int first = Model.nullifier(5, 0);
    Run run = run("14: Whether a nullifier is revealed (of no number of the field)").does(TWO_NOTES);
    run.does("spend 0 0 1; balance 10; connect = 2; revealed " + first + " = true");
    int[] others = {-first, first - 10009, first + 10009, first + 65536, first | 1 << 31, ~first};
    for (int other : others) {
      run.does("revealed " + other + " = false");
    }
    run.each("-1 10009 MIN MAX", "revealed @ = false");
  }

  // Promise 15.

  private static void noteKeys() {
    run("15: NONE when there is no such key")
        .does("note 0 0 0 = NONE;" + TWO_NOTES)
        .each("-1 2 3 4 5 MIN MAX", "note @ 0 0 = NONE; note @ 1 0 = NONE; note @ 0 2 = NONE")
        .does("note 0 0 0 = 10; note 1 1 0 = 20; key 5 = 2; note 2 0 0 = 10; note 3 0 0 = NONE; key 6 = 3")
        .does("note 3 1 0 = 20; note 4 1 0 = NONE");
  }

  private static void noteLeaves() {
    run("15: NONE when it does not find that leaf")
        .does(TWO_NOTES).each("-1 1 2 3 15 16 17 MIN MAX", "note 0 @ 0 = NONE; note 0 @ 2 = NONE; note 0 @ 3 = NONE")
        .does("note 0 0 0 = 10; note 1 0 0 = NONE; note 1 1 0 = 20; note 1 2 0 = NONE");
    fullTree("15: NONE when it does not find that leaf (of a full tree)", 9)
        .does("note 0 0 0 = 9; note 0 14 0 = 9; note 0 15 0 = NONE; note 1 15 0 = 9; note 1 16 0 = NONE")
        .does("note 1 0 0 = NONE; note 1 -1 0 = NONE; disconnect = 7; note 0 14 0 = NONE; note 1 15 0 = NONE")
        .does("note 0 14 1 = NONE; note 0 14 2 = NONE; note 0 14 3 = NONE; note 0 12 0 = 9; note 1 13 0 = 9");
  }

  private static void noteWhats() {
    run("15: NONE when there is no such what")
        .does(TWO_NOTES).each("-1 -2 4 5 256 MIN MAX", "note 0 0 @ = NONE; note 1 1 @ = NONE; note 0 1 @ = NONE")
        .does("note 0 0 0 = 10; note 0 0 1 = 1; note 0 0 2 = 0; note 0 0 3 = 4787");
  }

  private static void noteSpent() {
    run("15: 1 if it is spent, else 0")
        .does(TWO_NOTES + "note 0 0 2 = 0; note 1 1 2 = 0; spend 0 0 1; note 0 0 2 = 0; balance 9")
        .does("connect = SUM; note 0 0 2 = 0; balance 10; connect = 2; note 0 0 2 = 1; note 1 1 2 = 0")
        .does("note 0 0 0 = 10; note 0 0 1 = 1; note 0 0 3 = 4787; spend 1 1 1; balance 20; connect = 3")
        .does("note 0 0 2 = 1; note 1 1 2 = 1; disconnect = 2; note 1 1 2 = 0; note 0 0 2 = 1")
        .does("disconnect = 1; note 0 0 2 = 0");
  }

  // Promise 16.

  private static void totalKeys() {
    run("16: NONE when there is no such key")
        .does("total 0 = NONE;" + TWO_NOTES).each("-1 2 3 4 5 MIN MAX", "total @ = NONE")
        .does("total 0 = 10; total 1 = 20; key 5 = 2; total 2 = 10; total 3 = NONE; key 7 = 3; total 3 = 0")
        .does("total 4 = NONE");
  }

  private static void totalFromNothingToMost() {
    Run run = run("16: The sum of the values of all leaves").does("key 5 = 0; total 0 = 0");
    for (int n = 1; n <= 8; n++) {
      run.does("output 0 999 " + n + " 1 1; output 0 999 " + n + " 2 2; balance -1998");
      run.does("total 0 = " + 1998 * (n - 1) + "; connect = " + n + "; total 0 = " + 1998 * n);
    }
    run.does("total 0 = 15984; spend 0 0 1; spend 0 15 2; balance 1998; connect = 9; total 0 = 13986");
    run.does("disconnect = 8; total 0 = 15984; disconnect = 7; total 0 = 13986");
  }

  private static void totalOfSpentAndNotFound() {
    run("16: that key k finds and that are not spent")
        .does(TWO_NOTES + "key 5 = 2; spend 0 0 1; total 0 = 10; output 1 3 4 5 6; output 0 7 8 0 0; balance 0")
        .does("alter 4 0 = true; connect = 2; total 0 = 7; total 1 = 20; total 2 = 7; note 1 2 0 = NONE")
        .does("spend 1 1 1; balance 20; connect = 3; total 1 = 0; total 0 = 7; disconnect = 2; total 1 = 20")
        .does("disconnect = 1; total 0 = 10; total 2 = 10; disconnect = 0; total 0 = 0; total 1 = 0; total 2 = 0");
  }

  // Promise 17.

  private static void addressKeysAndWhats() {
    run("17: NONE when there is no such key")
        .does("address 0 0 = NONE; key 5 = 0; key 2472 = 1")
        .each("-1 2 3 4 5 MIN MAX", "address @ 0 = NONE; address @ 1 = NONE")
        .does("address 0 0 = 5006; address 1 0 = 4919; key 1 = 2; key 5 = 3; address 2 0 = 5090")
        .does("address 2 1 = 9579; address 3 0 = 5006; address 3 1 = 6493; address 4 0 = NONE");
    run("17: NONE when there is no such what")
        .does("key 5 = 0").each("-1 -2 2 3 256 MIN MAX", "address 0 @ = NONE")
        .does("address 0 0 = 5006; address 0 1 = 6493");
  }

  // Promise 18.

  private static void draftOfEachSize() {
    for (int spends = 0; spends <= 2; spends++) {
      for (int outputs = 0; outputs <= 2; outputs++) {
        Run run = run("18: -10000 when there is no such spend or output").does(TWO_NOTES);
        run.does("spend 0 0 1; spend 1 1 1; output 0 1 1 1 1; output 0 1 1 1 1; clear");
        putInto(run, spends, outputs);
        for (int what = 4; what <= 25; what++) {
          boolean there = isThere(what, spends, outputs);
          run.does("draft " + what + (there ? "" : " = -10000"));
        }
      }
    }
  }

  private static void putInto(Run run, int spends, int outputs) {
    for (int j = 0; j < spends; j++) {
      run.does("spend " + j + " " + j + " " + (3 + j) + " = true");
    }
    for (int j = 0; j < outputs; j++) {
      run.does("output " + j + " 1 2 3 " + (5 + j) + " = true");
    }
    run.does("draft 0 = " + spends + "; draft 1 = " + outputs);
  }

  private static boolean isThere(int what, int spends, int outputs) {
    int ofSpends = what < 8 ? (what - 4) / 2 : (what - 22) / 2;
    return what < 8 || what > 21 ? ofSpends < spends : (what - 8) / 7 < outputs;
  }

  private static void draftWhats() {
    run("18: -10000 when there is no such what")
        .does(TWO_NOTES + "spend 0 0 1; spend 1 1 2; output 0 1 2 3 4; output 1 1 2 3 4")
        .each("-1 -2 26 27 28 256 -10000 MIN MAX", "draft @ = -10000")
        .each("0 1 2 3 4 5 6 7 8 14 15 21 22 23 24 25", "draft @").does("draft 0 = 2; draft 3 = 2468");
  }

  private static void draftBalance() {
    run("18: 2 the balance, 3 the seal (of a draft without spends and outputs)")
        .does("balance -9999; alter 5 2472; draft 0 = 0; draft 1 = 0; draft 2 = -9999; draft 3 = 2472")
        .does("draft 4 = -10000; draft 8 = -10000; draft 22 = -10000");
  }
}
