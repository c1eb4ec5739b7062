import java.lang.reflect.InvocationTargetException;
import java.lang.reflect.Method;
import java.lang.reflect.Modifier;
import java.util.Collection;
import java.util.Map;
import java.util.TreeMap;

/**
 * Calls told as texts, like "addLink 0 1 c": the method's name, then its arguments. MIN and MAX are
 * the least and the greatest int, and # with a number behind it is the character of that number.
 */
final class Calls {
  private static final Map<String, Method> FACE = new TreeMap<>();

  static {
    for (Method method : Valleyfree.class.getDeclaredMethods()) {
      if (Modifier.isPublic(method.getModifiers())) {
        FACE.put(method.getName(), method);
      }
    }
  }

  private Calls() {
  }

  static Collection<Method> face() {
    return FACE.values();
  }

  /** The answer as a text, or "throws" and the name of the exception. */
  static String answer(Valleyfree x, String call) {
    String[] words = call.split(" ");
    Method method = FACE.get(words[0]);
    Class<?>[] types = method == null ? new Class<?>[0] : method.getParameterTypes();
    if (method == null || types.length != words.length - 1) {
      throw new IllegalArgumentException("no such call: " + call);
    }
    Object[] args = new Object[types.length];
    for (int i = 0; i < args.length; i++) {
      args[i] = argument(types[i], words[i + 1]);
    }
    try {
      return String.valueOf(method.invoke(x, args));
    } catch (InvocationTargetException e) {
      return thrown(e.getCause().getClass());
    } catch (IllegalAccessException e) {
      throw new IllegalStateException(e);
    }
  }

  static String thrown(Class<?> exception) {
    return "throws " + exception.getSimpleName();
  }

  private static Object argument(Class<?> type, String word) {
    if (type == boolean.class) {
      if (!word.equals("true") && !word.equals("false")) {
        throw new IllegalArgumentException("no boolean: " + word);
      }
      return word.equals("true");
    }
    if (type == char.class) {
      return word.length() > 1 ? (char) Integer.parseInt(word.substring(1)) : word.charAt(0);
    }
    switch (word) {
      case "MIN": return Integer.MIN_VALUE;
      case "MAX": return Integer.MAX_VALUE;
      default: return Integer.valueOf(word);
    }
  }
}
