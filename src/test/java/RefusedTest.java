import java.util.ArrayList;
import java.util.List;

/**
 * A refused call changes nothing: of two objects made by the same calls one is asked what it must
 * refuse, and behind that both answer the same to every question and to the calls that follow.
 */
public final class RefusedTest {
  private static final Check CHECK = new Check();
  private static final List<String> QUESTIONS = questions();

  /** Leaves 0 and 2 of 10 and 7 for key 0, leaf 1 of 20 for key 1. */
  private static final String CHAIN = "key 5; key 6; output 0 10 1 2 3; output 1 20 4 5 6; balance -30; connect;"
      + "output 0 7 8 9 10; balance -7; connect;";
  private static final String HALF_DRAFT = CHAIN + "spend 0 0 11; output 1 4 12 13 14; balance 6; alter 5 0;";
  private static final String FULL_DRAFT =
      CHAIN + "spend 0 0 11; spend 1 1 12; output 0 3 13 14 15; output 1 4 16 17 18; balance 23;";
  private static final String TURNED_DRAFT = CHAIN + "spend 0 0 11; balance 9; alter 5 " + Model.turnFor(1) + ";";

  private static final String NO_SCALARS = "-1 2473 MIN MAX";
  private static final String NO_VALUES = "-1 1000 MIN MAX";
  private static final String NO_FIELD_NUMBERS = "-1 10009 MIN MAX";
  private static final String NO_KEYS = "-1 2 3 4 MIN MAX";

  public static void main(String[] args) {
    key();
    spend();
    output();
    balance();
    alter();
    connectEmpty();
    connectAnchor();
    connectProof();
    connectSpent();
    connectSum();
    connectPool();
    connectFull();
    disconnect();
    questionsOfWhatIsNot();
    questionsOfWhatIs();
    CHECK.end();
  }

  // The refused calls.

  private static void key() {
    for (String made : new String[] {"", "key 5;", CHAIN}) {
      refusedEach(made, "0 -1 2473 MIN MAX", "key @ = NONE", "key 5; output 0 0 0 0 0; connect");
    }
    refusedEach(FULL_DRAFT, "0 -1 2473 MIN MAX", "key @ = NONE", "connect");
    refusedEach("key 7; key 8;" + HALF_DRAFT, "0 1 5 2472 2473", "key @ = NONE", "connect");
    refusedEach("key 1; key 2; key 3; key 4;", "0 1 5 2472 2473", "key @ = NONE", "output 3 0 0 0 0; connect");
  }

  private static void spend() {
    refusedEach(HALF_DRAFT, NO_KEYS, "spend @ 0 1 = false", "connect");
    refusedEach(HALF_DRAFT, "-1 1 3 15 16 MIN MAX", "spend 0 @ 1 = false", "connect");
    refusedEach(HALF_DRAFT, NO_SCALARS, "spend 0 2 @ = false", "connect");
    refusedEach(CHAIN, NO_SCALARS, "spend 0 2 @ = false", "spend 0 2 0; balance 7; connect");
    refusedEach(FULL_DRAFT, "0 1 2472 2473", "spend 0 2 @ = false", "connect");
    refusedEach("key 5;", "0 1 15 16", "spend 0 @ 1 = false", "output 0 0 0 0 0; connect");
    refused("", "spend 0 0 0 = false", "key 5; output 0 0 0 0 0; connect");
  }

  private static void output() {
    refusedEach(HALF_DRAFT, NO_KEYS, "output @ 1 2 3 4 = false", "connect");
    refusedEach(HALF_DRAFT, NO_VALUES, "output 0 @ 2 3 4 = false", "connect");
    refusedEach(HALF_DRAFT, NO_SCALARS, "output 0 1 @ 3 4 = false", "connect");
    refusedEach(HALF_DRAFT, NO_SCALARS, "output 0 1 2 @ 4 = false", "connect");
    refusedEach(HALF_DRAFT, NO_SCALARS, "output 0 1 2 3 @ = false", "connect");
    refusedEach(FULL_DRAFT, "0 1 999 1000", "output 0 @ 2 3 4 = false", "connect");
    refused("", "output 0 0 0 0 0 = false", "key 5; output 0 0 0 0 0; connect");
  }

  private static void balance() {
    for (String made : new String[] {HALF_DRAFT, FULL_DRAFT, TURNED_DRAFT}) {
      refusedEach(made, "-10000 10000 MIN MAX", "balance @ = false", "connect");
    }
    refusedEach("", "-10000 10000 MIN MAX", "balance @ = false", "key 5; output 0 0 0 0 0; connect");
  }

  private static void alter() {
    for (String made : new String[] {HALF_DRAFT, FULL_DRAFT}) {
      refusedEach(made, "-1 6 7 MIN MAX", "alter @ 0 = false", "connect");
      refusedEach(made, NO_FIELD_NUMBERS, "alter 0 @ = false", "connect");
      refusedEach(made, NO_FIELD_NUMBERS, "alter 1 @ = false", "connect");
      refusedEach(made, NO_VALUES, "alter 2 @ = false", "connect");
      refusedEach(made, NO_FIELD_NUMBERS, "alter 3 @ = false", "connect");
      refusedEach(made, NO_VALUES, "alter 4 @ = false", "connect");
      refusedEach(made, NO_SCALARS, "alter 5 @ = false", "connect");
    }
    refusedEach(TURNED_DRAFT, NO_SCALARS, "alter 5 @ = false", "connect");
    refusedEach(TURNED_DRAFT, "3 4", "alter @ 1 = false", "output 0 0 0 0 0; connect");
    refusedEach(CHAIN + "output 0 1 2 3 4; balance -1;", "0 1 2", "alter @ 1 = false", "connect");
    refusedEach(CHAIN, "0 1 2 3 4", "alter @ 1 = false", "spend 0 0 1; output 0 10 1 1 1; connect");
  }

  private static void connectEmpty() {
    refused("", "connect = EMPTY", "key 5; output 0 0 0 0 0; connect");
    refused(CHAIN + "balance 3; alter 5 4;", "connect = EMPTY", "alter 5 0; spend 0 0 1; balance 10; connect");
  }

  private static void connectAnchor() {
    int root = subject(CHAIN).ask("node 4 0");
    refused(FULL_DRAFT + "alter 0 1;", "connect = ANCHOR", "alter 0 " + root + "; connect");
    refused(HALF_DRAFT + "disconnect;", "connect = ANCHOR", "clear; spend 0 0 1; balance 10; connect");
  }

  private static void connectProof() {
    refused(FULL_DRAFT + "alter 1 1;", "connect = PROOF", "alter 1 4787; connect");
    refused(HALF_DRAFT + "alter 2 11; balance 7;", "connect = PROOF", "alter 2 10; balance 6; connect");
    refused(FULL_DRAFT + "alter 3 1;", "connect = PROOF", "alter 3 " + Model.commitment(5, 3, 13) + "; connect");
  }

  private static void connectSpent() {
    String twice = CHAIN + "spend 0 0 1; spend 0 0 2; balance 20;";
    refused(twice, "connect = SPENT", "clear; spend 0 0 1; balance 10; connect");
    String revealed = CHAIN + "spend 0 0 1; balance 10; connect; spend 0 2 3; spend 0 0 2; balance 17;";
    refused(revealed, "connect = SPENT", "disconnect; connect");
  }

  private static void connectSum() {
    refused(FULL_DRAFT + "balance 24;", "connect = SUM", "balance 23; connect");
    refused(HALF_DRAFT + "alter 5 1;", "connect = SUM", "alter 5 0; connect");
  }

  private static void connectPool() {
    refused(FULL_DRAFT + "balance 2496;", "connect = POOL", "balance 23; connect");
    refused("key 5; output 0 5 1 2 3; balance 2468;", "connect = POOL", "balance -5; connect");
  }

  private static void connectFull() {
    StringBuilder blocks = new StringBuilder("key 5; output 0 1 2 3 4; balance -1; connect;");
    for (int n = 2; n < 12; n++) {
      blocks.append("output 0 0 ").append(n).append(" 2 3; connect;");
    }
    blocks.append("spend 0 1 1; connect;");
    refused(blocks + "output 0 1 2 3 4; balance -1;", "connect = FULL", "disconnect; connect");
    refused(blocks + "spend 0 0 1; balance 1;", "connect = FULL", "disconnect; connect");
    StringBuilder leaves = new StringBuilder("key 5; output 0 1 2 3 4; balance -1; connect;");
    for (int n = 1; n <= 7; n++) {
      leaves.append("output 0 0 ").append(n).append(" 2 3; output 0 0 ").append(n).append(" 4 5; connect;");
    }
    refused(leaves + "output 0 1 2 3 4; output 0 2 2 3 4; balance -3;", "connect = FULL", "disconnect; connect");
    leaves.append("output 0 0 0 0 0; connect;");
    refused(leaves + "output 0 1 2 3 4; balance -1;", "connect = FULL", "disconnect; connect");
  }

  private static void disconnect() {
    refused("", "disconnect = NONE", "key 5; output 0 0 0 0 0; connect");
    refused("key 5; output 0 1 2 3 4; balance -1;", "disconnect = NONE", "connect");
    refused(HALF_DRAFT + "disconnect; disconnect;", "disconnect = NONE", "clear; output 0 0 0 0 0; connect");
  }

  private static void questionsOfWhatIsNot() {
    refusedEach(FULL_DRAFT, "-1 5 MIN MAX", "node @ 0 = NONE", "connect");
    refusedEach(FULL_DRAFT, "-1 16 MIN MAX", "node 0 @ = NONE", "connect");
    refusedEach(FULL_DRAFT, NO_KEYS, "note @ 0 0 = NONE", "connect");
    refusedEach(FULL_DRAFT, "-1 1 3 16 MIN MAX", "note 0 @ 0 = NONE", "connect");
    refusedEach(FULL_DRAFT, "-1 4 MIN MAX", "note 0 0 @ = NONE", "connect");
    refusedEach(FULL_DRAFT, NO_KEYS, "total @ = NONE", "connect");
    refusedEach(FULL_DRAFT, NO_KEYS, "address @ 0 = NONE", "connect");
    refusedEach(FULL_DRAFT, "-1 2 MIN MAX", "address 0 @ = NONE", "connect");
    refusedEach(FULL_DRAFT, "-1 26 MIN MAX", "draft @ = -10000", "connect");
    refusedEach(FULL_DRAFT, "-1 0 4787 10009 MIN MAX", "revealed @ = false", "connect");
  }

  private static void questionsOfWhatIs() {
    for (String question : QUESTIONS) {
      refused(FULL_DRAFT, question, "connect");
    }
  }

  // How it is seen that nothing changed.

  private static void refusedEach(String made, String words, String line, String behind) {
    for (String word : words.split(" ")) {
      refused(made, line.replace("@", word), behind);
    }
  }

  /**
   * The line is a call, with its answer if it is refused. The calls behind it end with a connect that
   * makes a block, so that what the draft holds unseen is compared too.
   */
  private static void refused(String made, String line, String behind) {
    String[] halves = line.split("=");
    Subject asked = subject(made);
    Subject left = subject(made);
    int got = asked.ask(halves[0].trim());
    if (halves.length > 1) {
      CHECK.due(made + " " + halves[0].trim(), got, Subject.number(halves[1].trim()));
    }
    for (String call : QUESTIONS) {
      same(made, line, call, asked, left);
    }
    int last = 0;
    for (String call : behind.split(";")) {
      last = same(made, line, call, asked, left);
    }
    CHECK.due(made + " " + behind + " connects", last > 0, true);
    same(made, line, "key 2222", asked, left);
    for (int n = 0; n < 14; n++) {
      for (String call : new String[] {"disconnect", "node 4 0", "leaves", "pool", "total 0", "total 1"}) {
        same(made, line, call, asked, left);
      }
    }
  }

  private static int same(String made, String line, String call, Subject asked, Subject left) {
    int due = left.ask(call);
    CHECK.due(made + " " + line + " changed " + call, asked.ask(call), due);
    return due;
  }

  private static Subject subject(String made) {
    Subject subject = new Subject();
    for (String call : made.split(";")) {
      if (!call.isBlank()) {
        subject.ask(call);
      }
    }
    return subject;
  }

  private static List<String> questions() {
    List<String> all = new ArrayList<>(List.of("blocks", "leaves", "pool", "revealed 4787"));
    for (int what = 0; what <= 25; what++) {
      all.add("draft " + what);
    }
    for (int level = 0; level <= 4; level++) {
      for (int k = 0; k < 16 >> level; k++) {
        all.add("node " + level + " " + k);
      }
    }
    for (int k = 0; k < 4; k++) {
      all.addAll(List.of("total " + k, "address " + k + " 0", "address " + k + " 1"));
      for (int i = 0; i < 16; i++) {
        all.addAll(List.of("note " + k + " " + i + " 0", "note " + k + " " + i + " 1", "note " + k + " " + i + " 2"));
      }
    }
    return all;
  }
}
