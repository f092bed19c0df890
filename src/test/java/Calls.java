import java.lang.reflect.InvocationTargetException;
import java.lang.reflect.Method;
import java.util.HashMap;
import java.util.Map;

/** Asks calls that are told as texts, as "board(2, 0, 0)", so that a test tells each call but once. */
final class Calls {
  private static final Map<String, Method> BY_NAME = byName();

  private Calls() {
  }

  private static Map<String, Method> byName() {
    Map<String, Method> found = new HashMap<>();
    for (Method method : CutInCopies.class.getMethods()) {
      if (method.getDeclaringClass() == CutInCopies.class) {
        found.put(method.getName(), method);
      }
    }
    return found;
  }

  private static Method method(String call) {
    return BY_NAME.get(call.substring(0, call.indexOf('(')));
  }

  /** Whether the call answers a long, so that it refuses far. */
  static boolean isFar(String call) {
    return method(call).getReturnType() == long.class;
  }

  static long ask(CutInCopies x, String call) {
    String told = call.substring(call.indexOf('(') + 1, call.length() - 1);
    String[] numbers = told.isEmpty() ? new String[0] : told.split(", ");
    Object[] with = new Object[numbers.length];
    for (int i = 0; i < numbers.length; i++) {
      with[i] = Integer.parseInt(numbers[i]);
    }
    try {
      return ((Number) method(call).invoke(x, with)).longValue();
    } catch (InvocationTargetException e) {
      throw new IllegalStateException(call + " threw", e.getCause());
    } catch (IllegalAccessException e) {
      throw new IllegalStateException(call, e);
    }
  }
}
