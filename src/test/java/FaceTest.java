import java.lang.management.ManagementFactory;
import java.lang.reflect.Constructor;
import java.lang.reflect.Field;
import java.lang.reflect.Method;
import java.lang.reflect.Modifier;
import java.util.Arrays;
import java.util.Set;
import java.util.TreeSet;

/** The class has the document's face and no more of it, and its calls leave the room free. */
public final class FaceTest {
  private static final Set<String> FACE = new TreeSet<>(Arrays.asList(
      "int key(int)", "void clear()", "boolean spend(int,int,int)",
      "boolean output(int,int,int,int,int)", "boolean balance(int)", "boolean alter(int,int)",
      "int connect()", "int disconnect()", "int blocks()", "int leaves()", "int node(int,int)",
      "int pool()", "boolean revealed(int)", "int note(int,int,int)", "int total(int)",
      "int address(int,int)", "int draft(int)"));
  private static final Set<String> CONSTANTS = new TreeSet<>(Arrays.asList(
      "NONE -1", "EMPTY -2", "ANCHOR -3", "PROOF -4", "SPENT -5", "SUM -6", "POOL -7", "FULL -8"));

  private static final Check CHECK = new Check();

  public static void main(String[] args) throws Exception {
    members();
    room();
    CHECK.end();
  }

  private static void same(String what, Set<String> got, Set<String> want) {
    if (!got.equals(want)) {
      System.out.println(what + ": " + got);
    }
    CHECK.due(what, got.equals(want), true);
  }

  private static void members() throws Exception {
    CHECK.due("public final", NotePool.class.getModifiers(), Modifier.PUBLIC | Modifier.FINAL);
    Set<String> methods = new TreeSet<>();
    for (Method method : NotePool.class.getDeclaredMethods()) {
      if (!Modifier.isPrivate(method.getModifiers())) {
        String types = Arrays.toString(method.getParameterTypes()).replace(" ", "");
        String plain = types.substring(1, types.length() - 1);
        methods.add(method.getReturnType() + " " + method.getName() + "(" + plain + ")");
      }
    }
    same("methods", methods, FACE);
    Set<String> constants = new TreeSet<>();
    for (Field field : NotePool.class.getDeclaredFields()) {
      if (!Modifier.isPrivate(field.getModifiers())) {
        constants.add(field.getName() + " " + field.getInt(null));
      }
    }
    same("constants", constants, CONSTANTS);
    Constructor<?>[] constructors = NotePool.class.getDeclaredConstructors();
    CHECK.due("one constructor", constructors.length, 1);
    CHECK.due("without parameters", constructors[0].getParameterCount(), 0);
  }

  /** All calls of a run share one room: here no call may take more of it than the constructor did. */
  private static void room() {
    com.sun.management.ThreadMXBean threads =
        (com.sun.management.ThreadMXBean) ManagementFactory.getThreadMXBean();
    busyRun(new NotePool());
    NotePool pool = new NotePool();
    long before = threads.getCurrentThreadAllocatedBytes();
    busyRun(pool);
    long taken = threads.getCurrentThreadAllocatedBytes() - before;
    CHECK.due("bytes for a run of calls, of which few are allowed: " + taken, taken < 4096, true);
  }

  private static void busyRun(NotePool pool) {
    for (int k = 0; k < 4; k++) {
      pool.key(100 + k);
    }
    for (int round = 0; round < 40; round++) {
      pool.output(round % 4, 10, round, round, round);
      pool.output(round % 3, 20, round, round, round);
      pool.balance(-30);
      pool.connect();
      pool.spend(round % 4, 0, round);
      pool.connect();
      pool.total(round % 4);
      pool.disconnect();
      pool.draft(round % 26);
      pool.clear();
    }
  }
}
