import java.lang.reflect.Constructor;
import java.lang.reflect.Field;
import java.lang.reflect.Member;
import java.lang.reflect.Method;
import java.lang.reflect.Modifier;
import java.util.Set;
import java.util.TreeSet;

/** The class shows the document's face and nothing else (LANGUAGE.md, rules 1 and 5). */
public final class FaceTest {
    public static void main(String[] args) {
        Bench bench = new Bench();
        Set<String> face = new TreeSet<>();
        Set<String> privateNames = new TreeSet<>();
        for (Field field : RequestCutter.class.getDeclaredFields()) {
            if (!isPrivate(field)) {
                face.add(field.toString());
            }
            bench.due(field + " is no static state",
                    Modifier.isStatic(field.getModifiers()) && !Modifier.isFinal(field.getModifiers()), false);
        }
        for (Constructor<?> constructor : RequestCutter.class.getDeclaredConstructors()) {
            face.add(constructor.toString());
        }
        for (Method method : RequestCutter.class.getDeclaredMethods()) {
            if (isPrivate(method)) {
                privateNames.add(method.getName());
            } else {
                face.add(method.toString());
            }
        }
        Set<String> want = Set.of(
                "public static final int RequestCutter.NONE",
                "public RequestCutter()",
                "public boolean RequestCutter.feed(int,int,int,int,int)",
                "public boolean RequestCutter.end(int)",
                "public int RequestCutter.arrive()",
                "public int RequestCutter.cut()",
                "public int RequestCutter.fault()",
                "public int RequestCutter.size(int)",
                "public int RequestCutter.byteOf(int,int)",
                "public boolean RequestCutter.drop(int)",
                "public int RequestCutter.waiting()");
        bench.due("the face is the document's, not " + face, face.equals(want), true);
        for (String name : privateNames) {
            bench.due("a face's method named " + name,
                    want.stream().anyMatch(line -> line.contains("." + name + "(")), false);
        }
        int modifiers = RequestCutter.class.getModifiers();
        bench.due("the class is public and final",
                Modifier.isPublic(modifiers) && Modifier.isFinal(modifiers), true);
        bench.due("NONE", RequestCutter.NONE, -1);
        bench.close();
    }

    private static boolean isPrivate(Member member) {
        return Modifier.isPrivate(member.getModifiers());
    }
}
