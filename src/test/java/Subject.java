import java.lang.reflect.InvocationTargetException;
import java.lang.reflect.Method;

/**
 * An object of the program, asked by texts such as "output 0 10 1 2 3"; of its answers true counts 1
 * and false 0. It takes no more calls than the document lets an object be used for.
 */
final class Subject {
  static final int MOST_CALLS = 512;

  private final NotePool pool = new NotePool();
  private int calls = 0;

  int ask(String call) {
    calls++;
    if (calls > MOST_CALLS) {
      throw new IllegalStateException("what call " + calls + " answers is free");
    }
    return answer(pool, call);
  }

  /** The program and the model have methods of the same names, so one way of calling serves both. */
  static int answer(Object target, String call) {
    String[] words = call.trim().split(" +");
    Object[] arguments = new Object[words.length - 1];
    for (int n = 0; n < arguments.length; n++) {
      arguments[n] = Integer.valueOf(number(words[n + 1]));
    }
    try {
      return asNumber(method(target, words[0], arguments.length).invoke(target, arguments));
    } catch (InvocationTargetException thrown) {
      throw new IllegalStateException(call + " threw " + thrown.getCause());
    } catch (IllegalAccessException wrong) {
      throw new IllegalStateException(wrong);
    }
  }

  static int number(String word) {
    switch (word) {
      case "true":
        return 1;
      case "false":
        return 0;
      case "MIN":
        return Integer.MIN_VALUE;
      case "MAX":
        return Integer.MAX_VALUE;
      case "NONE":
        return -1;
      case "EMPTY":
        return -2;
      case "ANCHOR":
        return -3;
      case "PROOF":
        return -4;
      case "SPENT":
        return -5;
      case "SUM":
        return -6;
      case "POOL":
        return -7;
      case "FULL":
        return -8;
      default:
        return Integer.parseInt(word);
    }
  }

  private static Method method(Object target, String name, int parameters) {
    for (Method method : target.getClass().getDeclaredMethods()) {
      if (method.getName().equals(name) && method.getParameterCount() == parameters) {
        return method;
      }
    }
    throw new IllegalStateException("no call " + name + " with " + parameters + " arguments");
  }

  private static int asNumber(Object answer) {
    if (answer instanceof Boolean) {
      return (Boolean) answer ? 1 : 0;
    }
    return answer == null ? 0 : (Integer) answer;
  }
}
