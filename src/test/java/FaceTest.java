import java.lang.reflect.Constructor;
import java.lang.reflect.Field;
import java.lang.reflect.Method;
import java.lang.reflect.Modifier;
import java.util.Arrays;
import java.util.TreeSet;

/** The public face: all that the document names and nothing else that is not private. */
public final class FaceTest {
    private static final String[] METHODS = {
        "boolean size(int,int)", "boolean weigh(int,int,int,int)", "int weight(int,int,int)",
        "int see(int)", "int forget(int)", "int seen()", "int symbol(int)", "long total()",
        "long before(int,int)", "long behind(int,int)", "int ways()", "long ranked(int)",
        "int stateOf(int,int)", "long share(int,int,int,int)", "long learned(int,int,int,int)",
        "int learn()", "boolean draw(long)", "int drawn(int)"};
    private static final String[] CONSTANTS = {"BEGIN", "NONE", "SHOW", "STEP"};

    private static int wrong = 0;

    private static void due(String what, Object got, Object want) {
        if (!got.equals(want)) {
            wrong++;
            System.out.println(what + " is " + got + ", due is " + want);
        }
    }

    private static String signature(Method m) {
        StringBuilder text = new StringBuilder(m.getReturnType() + " " + m.getName() + "(");
        for (Class<?> type : m.getParameterTypes()) {
            text.append(text.charAt(text.length() - 1) == '(' ? "" : ",").append(type);
        }
        return text.append(")").toString();
    }

    public static void main(String[] args) {
        int publicFinal = Modifier.PUBLIC | Modifier.FINAL;
        due("the class", WeightedTrellis.class.getModifiers(), publicFinal);
        TreeSet<String> open = new TreeSet<>();
        TreeSet<String> openNames = new TreeSet<>();
        for (Method m : WeightedTrellis.class.getDeclaredMethods()) {
            if (!Modifier.isPrivate(m.getModifiers())) {
                due(m.getName(), m.getModifiers(), Modifier.PUBLIC);
                open.add(signature(m));
                openNames.add(m.getName());
            }
        }
        due("the methods", open, new TreeSet<>(Arrays.asList(METHODS)));
        for (Method m : WeightedTrellis.class.getDeclaredMethods()) {
            if (Modifier.isPrivate(m.getModifiers())) {
                due("a private method with the public name " + m.getName(), openNames.contains(m.getName()), false);
            }
        }
        TreeSet<String> constants = new TreeSet<>();
        for (Field f : WeightedTrellis.class.getDeclaredFields()) {
            if (!Modifier.isPrivate(f.getModifiers())) {
                due(f.getName(), f.getModifiers(), publicFinal | Modifier.STATIC);
                due(f.getName(), f.getType(), int.class);
                constants.add(f.getName());
            }
        }
        due("the constants", constants, new TreeSet<>(Arrays.asList(CONSTANTS)));
        Constructor<?>[] constructors = WeightedTrellis.class.getDeclaredConstructors();
        due("the constructors", constructors.length, 1);
        due("its parameters", constructors[0].getParameterCount(), 0);
        due("its modifiers", constructors[0].getModifiers(), Modifier.PUBLIC);
        System.out.println(wrong == 0 ? "the face is as due" : wrong + " parts of the face are not as due");
        if (wrong != 0) {
            System.exit(1);
        }
    }
}
