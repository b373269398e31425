import java.lang.reflect.Constructor;
import java.lang.reflect.Field;
import java.lang.reflect.Method;
import java.lang.reflect.Modifier;
import java.util.Arrays;
import java.util.NoSuchElementException;
import java.util.Set;
import java.util.TreeSet;

/** The public face, member by member; and wild calls, of which none may throw but self. */
public final class FaceTests {
    private static final Due DUE = new Due();
    private static final String[] FACE = {
        "int feed(int,int,int,int,int)", "boolean end(int)", "int fault(int)", "int text(int)", "int call(int)",
        "int self(int,int)", "int way(int,int)", "int fork(int,int)", "int branch(int,int,int)", "int part(int,int,int)",
        "int open(int,int,boolean)", "int set(int,int)", "int undo()", "int odds(int)", "int mean(int)", "int worth(int)",
        "int value(int,int)", "int advice(int)", "int regret(int,int)", "int sore(int,int)", "int apology(int,int)",
        "int share(int,int)", "int demand(int)", "int terms(int)", "int away(int)", "int elected(int)", "int duel(int,int)",
        "int beats()", "int ring()", "int all(int)", "int telling(int)", "int twins(int)", "int sentence()",
        "int leads(int,int)", "int clue(int,int,int)", "int can(int)", "int cross(int,int)", "int meetings(int,int,int)",
        "int birthday(long)", "int born(int)", "int take()", "int town(int,long,int)", "int image()", "int back()",
        "int count(int)"};
    private static final String[] LIVES = {
        "l", "f(:l;:l)", "fk1(w3x1:l;x2:fy30(:ld1;g5:lg40t0;x9:l))", "f(:f(:f(:f(:f(:f(:l;:l);:l);:l);:l);:l);:l)",
        "f(:f(:l;:l;:l;:l);:f(:l;:l;:l;:l);:f(:l;:l;:l;:l))", "f(:f(:f(:f(:f(:f(:f(", "f(:l;:l;:l;:l;:l)", "ly0", "lg100"};
    private static final String[] TASTES = {
        "y:g", "y:j-g", "y:9999*9999*9999", "y:1/0", "y:!(!(![[[g]]]=1))?b;y:w", "y:!!!!!!!", "y:g>1", "y:[[[[[[[", "y:0-b",
        "y:g=1|j=2&[o*y/d+t*b-w]>3?4;y:5"};

    private static long seed = 3;

    private static int draw(int m) {
        seed = seed * 6364136223846793005L + 1442695040888963407L;
        return (int) ((seed >>> 33) % m);
    }

    private static String signature(Method method) {
        StringBuilder out = new StringBuilder(method.getReturnType() + " " + method.getName() + "(");
        for (Class<?> type : method.getParameterTypes()) {
            out.append(out.charAt(out.length() - 1) == '(' ? "" : ",").append(type);
        }
        return out.append(")").toString();
    }

    private static void face() {
        Set<String> want = new TreeSet<>(Arrays.asList(FACE));
        Set<String> got = new TreeSet<>();
        Set<String> names = new TreeSet<>();
        for (Method method : OtherSelves.class.getDeclaredMethods()) {
            if (Modifier.isPublic(method.getModifiers())) {
                got.add(signature(method));
                names.add(method.getName());
            }
        }
        DUE.due("the face " + got, got.equals(want), true);
        for (Method method : OtherSelves.class.getDeclaredMethods()) {
            boolean isPrivate = Modifier.isPrivate(method.getModifiers());
            boolean isPublic = Modifier.isPublic(method.getModifiers());
            DUE.due(method + " is public or private", isPrivate || isPublic, true);
            DUE.due(method + " has a name of its own", isPublic || !names.contains(method.getName()), true);
        }
        for (Field field : OtherSelves.class.getDeclaredFields()) {
            boolean told = field.getName().equals("NONE") || field.getName().equals("HIDDEN");
            int modifiers = field.getModifiers();
            DUE.due(field + " is public", Modifier.isPublic(modifiers), told);
            DUE.due(field + " is private", Modifier.isPrivate(modifiers), !told);
            DUE.due(field + " is final if static", !Modifier.isStatic(modifiers) || Modifier.isFinal(modifiers), true);
        }
        DUE.due("NONE", OtherSelves.NONE, -1);
        DUE.due("HIDDEN", OtherSelves.HIDDEN, -2000000000);
        constants();
        thrown();
        Constructor<?>[] made = OtherSelves.class.getDeclaredConstructors();
        DUE.due("constructors", made.length * 10 + made[0].getParameterCount(), 10);
        DUE.due("the constructor is public", Modifier.isPublic(made[0].getModifiers()), true);
        DUE.due("public and final", OtherSelves.class.getModifiers(), Modifier.PUBLIC | Modifier.FINAL);
        DUE.due("no class above it", OtherSelves.class.getSuperclass() == Object.class, true);
        DUE.due("no interface", OtherSelves.class.getInterfaces().length, 0);
    }

    private static void constants() {
        for (Field field : OtherSelves.class.getDeclaredFields()) {
            if (Modifier.isPublic(field.getModifiers())) {
                DUE.due(field + " is an int", field.getType() == int.class, true);
                DUE.due(field + " is a constant", field.getModifiers(), Modifier.PUBLIC | Modifier.STATIC | Modifier.FINAL);
            }
        }
        for (Class<?> inside : OtherSelves.class.getDeclaredClasses()) {
            int seen = inside.getModifiers() & (Modifier.PUBLIC | Modifier.PROTECTED);
            DUE.due(inside + " can't be seen from outside", seen, 0);
        }
    }

    /** self alone tells that it throws, and what. */
    private static void thrown() {
        for (Method method : OtherSelves.class.getDeclaredMethods()) {
            Class<?>[] thrown = method.getExceptionTypes();
            boolean isSelf = method.getName().equals("self");
            DUE.due(method + " tells of exceptions", thrown.length, isSelf ? 1 : 0);
            DUE.due(method + " tells of its own", !isSelf || thrown[0] == NoSuchElementException.class, true);
            DUE.due(method + " is static", Modifier.isStatic(method.getModifiers()), false);
        }
    }

    private static Object wild(Class<?> type) {
        if (type == boolean.class) {
            return draw(2) == 0;
        }
        if (type == long.class) {
            return draw(3) == 0 ? Long.MIN_VALUE + draw(2) : (long) draw(1000);
        }
        switch (draw(12)) {
            case 0: return Integer.MIN_VALUE + draw(2);
            case 1: return Integer.MAX_VALUE - draw(2);
            case 2: return -1 - draw(3);
            case 3: return draw(300);
            case 4: return 1 << draw(32);
            case 5: return draw(10001);
            default: return draw(13);
        }
    }

    private static void wildCall(OtherSelves x, Method method) throws Exception {
        Object[] arguments = new Object[method.getParameterCount()];
        for (int i = 0; i < arguments.length; i++) {
            arguments[i] = wild(method.getParameterTypes()[i]);
        }
        try {
            method.invoke(x, arguments);
        } catch (java.lang.reflect.InvocationTargetException e) {
            boolean asTold = e.getCause().getClass() == NoSuchElementException.class && method.getName().equals("self");
            DUE.due(method + " " + Arrays.toString(arguments) + " threw " + e.getCause(), asTold, true);
        }
    }

    private static void wildRuns() throws Exception {
        Method[] all = OtherSelves.class.getDeclaredMethods();
        Arrays.sort(all, (a, b) -> signature(a).compareTo(signature(b)));
        for (int run = 0; run < 2000; run++) {
            OtherSelves x = new OtherSelves();
            for (int i = 0; i < 500; i++) {
                int which = draw(40);
                if (which == 0) {
                    Due.life(x, LIVES[draw(LIVES.length)]);
                } else if (which == 1) {
                    Due.taste(x, TASTES[draw(TASTES.length)]);
                } else {
                    Method method = all[draw(all.length)];
                    if (Modifier.isPublic(method.getModifiers())) {
                        wildCall(x, method);
                    }
                }
            }
        }
    }

    public static void main(String[] args) throws Exception {
        face();
        wildRuns();
        DUE.close("FaceTests");
    }
}
