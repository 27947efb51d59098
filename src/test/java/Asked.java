import java.lang.reflect.Method;
import java.lang.reflect.Modifier;
import java.util.Map;
import java.util.TreeMap;

/** An object (a WhichLane or a PlainLane) that is asked by the words of a call, as "sort(0, 2)"; its calls are counted. */
final class Asked {
  int calls;
  private final Object object;
  private final Map<String, Method> methods = new TreeMap<>();

  Asked(Object object) {
    this.object = object;
    for (Method m : object.getClass().getDeclaredMethods()) {
      if (!Modifier.isStatic(m.getModifiers()) && !Modifier.isPrivate(m.getModifiers())) {
        methods.put(m.getName(), m);
      }
    }
  }

  int ask(String call) throws ReflectiveOperationException {
    Method m = methods.get(nameOf(call));
    String inside = call.substring(call.indexOf('(') + 1, call.lastIndexOf(')')).trim();
    String[] told = inside.isEmpty() ? new String[0] : inside.split("\\s*,\\s*");
    if (m == null || m.getParameterCount() != told.length) {
      throw new IllegalArgumentException("no such call: " + call);
    }
    Object[] numbers = new Object[told.length];
    for (int i = 0; i < told.length; i++) {
      numbers[i] = number(told[i], m.getParameterTypes()[i]);
    }
    calls++;
    return (int) m.invoke(object, numbers);
  }

  static String nameOf(String call) {
    return call.substring(0, call.indexOf('('));
  }

  private static Object number(String told, Class<?> type) {
    long v = Long.decode(told.endsWith("L") ? told.substring(0, told.length() - 1) : told);
    if (type == long.class) {
      return v;
    }
    return Math.toIntExact(v);
  }
}
