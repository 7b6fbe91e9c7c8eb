import java.lang.reflect.Constructor;
import java.lang.reflect.Field;
import java.lang.reflect.Member;
import java.lang.reflect.Method;
import java.lang.reflect.Modifier;
import java.util.Arrays;
import java.util.List;
import java.util.NoSuchElementException;
import java.util.Set;
import java.util.TreeSet;

/** The public face is the document's, no more and no less. */
public final class FaceTest {
    private static final List<String> METHODS = List.of(
            "int days(int)", "int folder(int)", "int word(int)", "int paper(int,int)", "int page(int)",
            "boolean third(int,int,boolean)", "boolean heard(int)", "boolean judge(int,boolean)",
            "int black(int,int,int,int)", "boolean clear(int,int)", "int feed(long,long,long)", "int rules()",
            "int ask(int,int,int)", "int narrow(int,int)", "boolean stop(int,boolean)", "int due(int)",
            "int found(int)", "int finds(int,int)", "int answer(int,int)", "int given(int,int)",
            "int look(int,int)", "int read(int,int)", "int count(int)");

    public static void main(String[] args) throws Exception {
        Checks check = new Checks();
        check.part("face");
        Class<PapersDesk> desk = PapersDesk.class;
        check.yes("public", Modifier.isPublic(desk.getModifiers()));
        check.yes("final", Modifier.isFinal(desk.getModifiers()));
        check.same("NONE", PapersDesk.NONE, -1);
        check.yes("the methods", open(desk.getDeclaredMethods()).equals(new TreeSet<>(METHODS)));
        check.yes("the fields", open(desk.getDeclaredFields()).equals(Set.of("int NONE")));
        check.yes("the constructors", open(desk.getDeclaredConstructors()).equals(Set.of("new()")));
        Class<?>[] thrown = desk.getMethod("look", int.class, int.class).getExceptionTypes();
        check.yes("what look throws", Arrays.equals(thrown, new Class<?>[] {NoSuchElementException.class}));
        privateNames(check, desk);
        check.end();
    }

    /** No private method, here or in a class inside, bears the name of a public one. */
    private static void privateNames(Checks check, Class<?> desk) {
        Set<String> names = new TreeSet<>();
        for (String method : METHODS) {
            names.add(method.substring(method.indexOf(' ') + 1, method.indexOf('(')));
        }
        for (Method method : desk.getDeclaredMethods()) {
            boolean hidden = Modifier.isPrivate(method.getModifiers());
            check.no("a private " + method.getName(), hidden && names.contains(method.getName()));
        }
        for (Class<?> inside : desk.getDeclaredClasses()) {
            check.yes(inside.getName() + " static", Modifier.isStatic(inside.getModifiers()));
            for (Method method : inside.getDeclaredMethods()) {
                check.no(inside.getName() + "." + method.getName(), names.contains(method.getName()));
            }
        }
    }

    private static Set<String> open(Member[] members) {
        Set<String> seen = new TreeSet<>();
        for (Member member : members) {
            if (!Modifier.isPrivate(member.getModifiers())) {
                seen.add(told(member));
            }
        }
        return seen;
    }

    private static String told(Member member) {
        if (member instanceof Field field) {
            return field.getType().getSimpleName() + " " + field.getName();
        }
        if (member instanceof Constructor<?> made) {
            return "new" + parameters(made.getParameterTypes());
        }
        Method method = (Method) member;
        return method.getReturnType().getSimpleName() + " " + method.getName() + parameters(method.getParameterTypes());
    }

    private static String parameters(Class<?>[] types) {
        StringBuilder told = new StringBuilder("(");
        for (Class<?> type : types) {
            told.append(told.length() > 1 ? "," : "").append(type.getSimpleName());
        }
        return told.append(")").toString();
    }
}
