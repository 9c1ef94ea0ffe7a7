import java.lang.reflect.Constructor;
import java.lang.reflect.Field;
import java.lang.reflect.Method;
import java.lang.reflect.Modifier;
import java.util.Set;
import java.util.TreeSet;

/** The public face: every constant, constructor and method of the document and no other. */
public final class FaceTest {
    private static final String[] METHODS = {
        "feed(IIIII)I", "end(I)I", "text(II)I", "fault(I)I", "town(II)I", "rule(III)I", "person(III)I",
        "sign(III)I", "meet(III)I", "skill(IIZI)I", "act(III)I", "stop(II)I", "when(IIII)I", "state(IIII)I",
        "evening(IIII)I", "worth(IIIII)I", "gone(IIIIII)I", "keeps(IIIIII)I", "row(IIIIIII)I", "safe(IIIIII)I",
        "again(IIIII)I", "finds(IIII)I", "best(IIIIII)I", "gap(IIIII)I", "pact(IIIII)I", "guess(IIIIIII)I",
        "ask(IIIIIZ)I", "note(IIIIII)I", "honest(IIIII)I", "trial(IIIIII)I", "order(IIIIIII)I", "ways(IIIII)I",
        "leans(IIIIIZ)I", "spread(IIII)I", "gain(IIIIII)I", "relief(IIIIZ)I", "days(IIIII)I", "reach(II)I",
        "twins(II)I", "roots(IIIII)I", "teach(IIIII)I", "whole(IIII)I", "stay(IIIII)I", "shut(IIIII)I",
        "known(IIIII)I", "count(I)I", "image(I)Z", "back(I)Z"};

    private FaceTest() {
    }

    public static void main(String[] args) {
        Set<String> due = new TreeSet<>(Set.of(METHODS));
        Set<String> got = new TreeSet<>();
        Set<String> hidden = new TreeSet<>();
        for (Method method : ForgetBread.class.getDeclaredMethods()) {
            StringBuilder face = new StringBuilder(method.getName()).append('(');
            for (Class<?> type : method.getParameterTypes()) {
                face.append(type.descriptorString());
            }
            face.append(')').append(method.getReturnType().descriptorString());
            if (Modifier.isPrivate(method.getModifiers())) {
                hidden.add(method.getName());
            } else {
                Kit.due(face + " is public", method.getModifiers(), Modifier.PUBLIC);
                got.add(face.toString());
            }
        }
        Kit.due("methods " + got, got.equals(due), true);
        for (String name : METHODS) {
            Kit.due("hidden " + name, hidden.contains(name.substring(0, name.indexOf('('))), false);
        }
        int open = 0;
        for (Field field : ForgetBread.class.getDeclaredFields()) {
            if (!Modifier.isPrivate(field.getModifiers())) {
                open++;
                Kit.due(field.getName(), field.getName().equals("NONE"), true);
                int constant = Modifier.PUBLIC | Modifier.STATIC | Modifier.FINAL;
                Kit.due("modifiers of NONE", field.getModifiers(), constant);
            }
            boolean free = Modifier.isStatic(field.getModifiers()) && !Modifier.isFinal(field.getModifiers());
            Kit.due("static state " + field.getName(), free, false);
        }
        Kit.due("constants", open, 1);
        Kit.due("NONE", ForgetBread.NONE, -1);
        Constructor<?>[] made = ForgetBread.class.getDeclaredConstructors();
        Kit.due("constructors", made.length, 1);
        Kit.due("public constructor", made[0].getModifiers(), Modifier.PUBLIC);
        Kit.due("its parameters", made[0].getParameterCount(), 0);
        Kit.due("class", ForgetBread.class.getModifiers(), Modifier.PUBLIC | Modifier.FINAL);
        for (Class<?> inside : ForgetBread.class.getDeclaredClasses()) {
            Kit.due(inside.getName(), Modifier.isStatic(inside.getModifiers()), true);
            Kit.due(inside.getName(), Modifier.isPublic(inside.getModifiers()), false);
        }
        Kit.close();
    }
}
