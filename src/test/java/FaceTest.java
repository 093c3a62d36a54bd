import java.lang.reflect.Constructor;
import java.lang.reflect.Field;
import java.lang.reflect.Method;
import java.lang.reflect.Modifier;
import java.util.ArrayList;
import java.util.List;
import java.util.TreeSet;

/** Holds the class's members against the public face of the document, and against rule 1 of the language. */
public final class FaceTest {
    private static final String I = " throws IndexOutOfBoundsException";
    private static final String IN = I + ",NoSuchElementException";
    private static final String INA = IN + ",IllegalArgumentException";
    private static final String IA = I + ",IllegalArgumentException";
    private static final String A = " throws IllegalArgumentException";
    private static final String SA = " throws IllegalStateException,IllegalArgumentException";

    private static final String[] FACE = {
        "int identity(int,int)" + IA,
        "int copy(int,int)" + IN,
        "int type(char)" + A + ",IllegalStateException",
        "int erase()",
        "char signAt(int)" + A,
        "int read(int,int)" + IA,
        "int cycles(int)" + IN,
        "int size(int)" + I,
        "int at(int,int)" + INA,
        "int undo() throws NoSuchElementException",
        "int rank(int)" + IN,
        "int unrank(int,int)" + I + ",NumberFormatException,IllegalArgumentException",
        "boolean next(int)" + IN,
        "boolean previous(int)" + IN,
        "int skip(int,long)" + IN,
        "int compare(int,int)" + IN,
        "int multiply(int,int,int)" + INA,
        "int invert(int)" + IN,
        "int power(int,long)" + IN,
        "int conjugate(int,int,int)" + INA,
        "int order(int)" + IN,
        "int sign(int)" + IN,
        "int cyclesOf(int,int)" + INA,
        "boolean isAlike(int,int)" + IN,
        "boolean hasRoot(int,int)" + INA,
        "int swap(int,int,int)" + INA,
        "int rotate(int,int)" + IN,
        "int reverse(int)" + IN,
        "int flip(int,int)" + INA,
        "int riffle(int,boolean)" + IN,
        "int riffles(int,boolean)" + A,
        "int inversions(int)" + IN,
        "int code(int,int)" + INA,
        "int decode(int,int)" + IA,
        "int swaps(int)" + IN,
        "int flips(int)" + INA,
        "int runs(int)" + IN,
        "int longest(int)" + IN,
        "int shape(int,int)" + INA,
        "int entry(int,boolean,int,int)" + IN,
        "int exchange(int,int)" + IN,
        "int generate(int,int)" + INA,
        "boolean isMember(int)" + IN + ",IllegalStateException,IllegalArgumentException",
        "int word(int)" + IN + ",IllegalStateException,IllegalArgumentException,UnsupportedOperationException",
        "int orbit(int)" + SA,
        "int stabiliser(int)" + SA,
        "boolean contains(int,int)" + INA,
        "int avoiders(int,int)" + INA,
        "int leastTurn() throws IllegalStateException",
        "long necklaces(int,int)" + A,
        "int held()",
        "long checksum()",
        "boolean isSound()",
    };

    public static void main(String[] args) {
        Class<?> type = ArrangementCabinet.class;
        List<String> wrong = new ArrayList<>();
        if (type.getModifiers() != (Modifier.PUBLIC | Modifier.FINAL) || type.getSuperclass() != Object.class
                || type.getInterfaces().length > 0) {
            wrong.add("the class is not just public and final");
        }
        TreeSet<String> names = new TreeSet<>();
        TreeSet<String> due = new TreeSet<>(List.of(FACE));
        for (Method method : type.getDeclaredMethods()) {
            if (!Modifier.isPrivate(method.getModifiers())) {
                names.add(method.getName());
                String told = told(method);
                if (method.getModifiers() != Modifier.PUBLIC || !due.remove(told)) {
                    wrong.add("not of the face: " + told);
                }
            }
        }
        due.forEach(told -> wrong.add("missing: " + told));
        Constructor<?>[] constructors = type.getDeclaredConstructors();
        if (constructors.length != 1 || constructors[0].getModifiers() != Modifier.PUBLIC
                || constructors[0].getParameterCount() != 0) {
            wrong.add("not the one constructor");
        }
        for (Field field : type.getDeclaredFields()) {
            if (!Modifier.isPrivate(field.getModifiers())) {
                wrong.add("a field of the face: " + field.getName());
            }
        }
        List<Class<?>> all = new ArrayList<>(List.of(type.getDeclaredClasses()));
        for (Class<?> inside : all) {
            if (!Modifier.isStatic(inside.getModifiers()) || Modifier.isPublic(inside.getModifiers())) {
                wrong.add("not static, or public: " + inside.getName());
            }
        }
        if (all.size() > 11) {
            wrong.add("too many classes: " + all.size());
        }
        all.add(type);
        for (Class<?> any : all) {
            for (Method method : any.getDeclaredMethods()) {
                if (Modifier.isPrivate(method.getModifiers()) && names.contains(method.getName())) {
                    wrong.add("private, with the name of a public one: " + method);
                }
            }
        }
        wrong.forEach(System.out::println);
        System.out.println(FACE.length + " methods of the face, " + wrong.size() + " faults");
        System.exit(wrong.isEmpty() ? 0 : 1);
    }

    private static String told(Method method) {
        StringBuilder told = new StringBuilder(method.getReturnType().getSimpleName());
        told.append(' ').append(method.getName()).append('(');
        String comma = "";
        for (Class<?> parameter : method.getParameterTypes()) {
            told.append(comma).append(parameter.getSimpleName());
            comma = ",";
        }
        told.append(')');
        comma = " throws ";
        for (Class<?> exception : method.getExceptionTypes()) {
            told.append(comma).append(exception.getSimpleName());
            comma = ",";
        }
        return told.toString();
    }
}
