import java.lang.reflect.Constructor;
import java.lang.reflect.Field;
import java.lang.reflect.Member;
import java.lang.reflect.Method;
import java.lang.reflect.Modifier;
import java.util.TreeSet;

/** The public face: the document's members and no other ones. */
public final class FaceTest {
    private static final String B = " throws IndexOutOfBoundsException";
    private static final String A = " throws IllegalArgumentException";
    private static final String S = " throws IllegalStateException";
    private static final String BSU = B + ",IllegalStateException,UnsupportedOperationException";
    private static final String BASU = B + ",IllegalArgumentException,IllegalStateException,UnsupportedOperationException";
    private static final String[] METHODS = {
        "int law(char,int)" + A + ",IllegalStateException",
        "int setPlace(int,int,int)" + B + ",IllegalArgumentException,UnsupportedOperationException",
        "int placeOf(int,int)" + B + ",NoSuchElementException",
        "boolean isOffside(int,int)" + B + ",UnsupportedOperationException",
        "boolean isContested()",
        "int begin(int)" + B + ",IllegalStateException",
        "int pass(int)" + A + ",IllegalStateException",
        "int clock()", "int period()", "boolean isOver()", "char play()",
        "int toCome(char)" + A + ",NoSuchElementException",
        "int carry(int)" + A + ",IllegalStateException",
        "boolean throwTo(int)" + BSU,
        "boolean lose(int,boolean)" + BSU,
        "boolean tackle(int)" + BSU,
        "boolean join(int,int)" + BSU,
        "int win(int,int)" + BSU,
        "int offend(int,char,boolean)" + B + ",IllegalArgumentException,IllegalStateException",
        "char blow()" + S,
        "char kickOut(int,boolean)" + A + ",IllegalStateException",
        "char ground()" + S + ",UnsupportedOperationException",
        "boolean restart(int)" + BSU,
        "char choose(char,int)" + A + ",IllegalStateException,UnsupportedOperationException",
        "int kick(boolean)" + S,
        "char reset()" + S,
        "char review()" + S,
        "boolean card(int,int,char)" + BASU,
        "boolean decide(int,int,boolean)" + B + ",UnsupportedOperationException",
        "int comeBack(int,int)" + BSU,
        "int replace(int,int,int,char)" + BASU,
        "int onField(int)" + B,
        "int allowed(int)" + B,
        "int decisions()",
        "int decision(int,char)" + B + ",IllegalArgumentException",
        "int points(int)" + B,
        "int leaguePoints(int)" + B + ",IllegalStateException",
        "float share(int)" + B + ",ArithmeticException",
        "long secondsOfPlay()",
        "double meanPhases() throws ArithmeticException",
        "boolean isConsistent()"};

    public static void main(String[] args) {
        Check check = new Check("FaceTest");
        TreeSet<String> want = new TreeSet<String>();
        TreeSet<String> names = new TreeSet<String>();
        for (String method : METHODS) {
            want.add("public " + method);
            names.add(method.substring(method.indexOf(' ') + 1, method.indexOf('(')));
        }
        TreeSet<String> got = new TreeSet<String>();
        for (Method method : Scrumward.class.getDeclaredMethods()) {
            if (isSeen(method)) {
                got.add(method.toGenericString().replace("Scrumward.", "").replace("java.lang.", "").replace("java.util.", ""));
            } else {
                check.due("a private method with the name of a public one: " + method, names.contains(method.getName()), false);
            }
        }
        check.dueText("methods", got.toString(), want.toString());
        check.due("public and final", Scrumward.class.getModifiers(), Modifier.PUBLIC | Modifier.FINAL);
        Constructor<?>[] constructors = Scrumward.class.getDeclaredConstructors();
        check.due("one constructor", constructors.length, 1);
        check.dueText("constructor", constructors[0].toGenericString(), "public Scrumward()");
        for (Field field : Scrumward.class.getDeclaredFields()) {
            check.due("a field that is seen: " + field, isSeen(field), false);
        }
        for (Class<?> inside : Scrumward.class.getDeclaredClasses()) {
            int modifiers = inside.getModifiers();
            boolean isOpen = Modifier.isPublic(modifiers) || Modifier.isProtected(modifiers);
            check.due("a class inside: " + inside, Modifier.isStatic(modifiers) && !isOpen, true);
            for (Method method : inside.getDeclaredMethods()) {
                check.due("a name of the face: " + method, names.contains(method.getName()), false);
            }
        }
        check.end();
    }

    private static boolean isSeen(Member member) {
        return !member.isSynthetic() && !Modifier.isPrivate(member.getModifiers());
    }
}
