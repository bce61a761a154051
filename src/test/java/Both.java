import java.lang.reflect.Method;
import java.util.Arrays;
import java.util.HashMap;
import java.util.Map;

/** The class and the Oracle side by side: each call is made on both, answers, STATUS and FRACTION must be alike. */
final class Both {
    private static final Map<String, Method> FACE = new HashMap<>();

    static {
        for (Method m : ExtraCaste.class.getDeclaredMethods()) {
            FACE.put(m.getName(), m);
        }
    }

    final ExtraCaste caste = new ExtraCaste();
    final Oracle oracle = new Oracle();
    private int calls;

    private long ask(String call, long... p) throws Exception {
        Method m = FACE.get(call);
        Class<?>[] types = m.getParameterTypes();
        Object[] q = new Object[types.length];
        for (int i = 0; i < q.length; i++) {
            if (types[i] == int.class) {
                q[i] = (int) p[i];
            } else if (types[i] == long.class) {
                q[i] = p[i];
            } else {
                q[i] = p[i] == 1;
            }
        }
        Object got = m.invoke(caste, q);
        calls++;
        if (got instanceof Boolean) {
            return (Boolean) got ? 1 : -1;
        }
        return ((Number) got).longValue();
    }

    boolean call(String what, String call, long... p) throws Exception {
        String told = what + ", call " + (calls + 1) + ": " + call + Arrays.toString(p);
        long want = oracle.ask(call, p);
        long got = ask(call, p);
        Check.due(told, got, want);
        if (got != want) {
            return false;
        }
        Check.due(told + ": status", caste.status(), oracle.status);
        if (!call.equals("feed")) {
            Check.due(told + ": top", caste.top(), oracle.top);
            Check.due(told + ": bottom", caste.bottom(), oracle.bottom);
        }
        return caste.status() == oracle.status;
    }

    /** A text of 20 bytes and more, or less, and the call that takes it. */
    boolean text(String what, String call, String text) throws Exception {
        boolean same = true;
        for (int at = 0; at < text.length() && same; at += 20) {
            long[] words = new long[5];
            for (int k = 0; k < 20; k++) {
                int sign = at + k < text.length() ? text.charAt(at + k) : 0;
                words[k / 4] = words[k / 4] << 8 | sign;
            }
            same = call(what, "feed", words);
        }
        return same && call(what, call, text.length()) && call(what, "fault", 0) && call(what, "fault", 1);
    }
}
