import java.lang.reflect.Constructor;
import java.lang.reflect.Field;
import java.lang.reflect.Method;
import java.lang.reflect.Modifier;
import java.util.Arrays;
import java.util.Set;
import java.util.TreeSet;

/** The public face, and nothing else to be seen from outside. */
public final class FaceTest {
    private static final String[] FACE = {
        "feed(int,int,int,int,int)", "end(int)", "town()", "fault(int)", "days(int)", "bars(int,int,int)",
        "does(int,int,int)", "meet(int,int)", "done(int)", "known(int,int)", "debts(int)", "debt(int,int,int)",
        "slights(int)", "first()", "owes(int,int,int)", "worth(int,int)", "round(int,int,int)", "over(int,int)",
        "may(int,int,int)", "fewest(int)", "lost(int)", "soon(int,int)", "path(int,int,int)", "reach(int)",
        "drop(int)", "tie(int,int)", "rings()", "ring(int)", "house(int,int)", "beside(int)", "count(int)",
        "keep(int)", "back(int)", "row(int,int,int)", "write(int,int,long)", "paste(int,int,int,int,int)"};

    public static void main(String[] args) {
        Check check = new Check("FaceTest");
        check.due("NONE", CardBowl.NONE, -1);
        check.isTrue("public and final", Modifier.isPublic(CardBowl.class.getModifiers())
            && Modifier.isFinal(CardBowl.class.getModifiers()));
        Set<String> names = new TreeSet<>();
        Set<String> plain = new TreeSet<>();
        for (Method m : CardBowl.class.getDeclaredMethods()) {
            if (Modifier.isPrivate(m.getModifiers()) || m.isSynthetic()) {
                continue;
            }
            StringBuilder b = new StringBuilder(m.getName()).append('(');
            for (Class<?> c : m.getParameterTypes()) {
                b.append(b.charAt(b.length() - 1) == '(' ? "" : ",").append(c.getName());
            }
            names.add(b.append(')').toString());
            plain.add(m.getName());
            check.isTrue(m.getName() + " answers int", m.getReturnType() == int.class);
            check.isTrue(m.getName() + " is public", Modifier.isPublic(m.getModifiers()));
            check.isTrue(m.getName() + " is no static one", !Modifier.isStatic(m.getModifiers()));
        }
        check.isTrue("the methods are those of the document", names.equals(new TreeSet<>(Arrays.asList(FACE))));
        for (Field f : CardBowl.class.getDeclaredFields()) {
            boolean seen = Modifier.isPublic(f.getModifiers()) && f.getName().equals("NONE");
            check.isTrue("field " + f.getName(), seen || Modifier.isPrivate(f.getModifiers()));
        }
        Constructor<?>[] makers = CardBowl.class.getDeclaredConstructors();
        check.due("constructors", makers.length, 1);
        check.isTrue("a public one", Modifier.isPublic(makers[0].getModifiers()));
        for (Class<?> inner : CardBowl.class.getDeclaredClasses()) {
            check.isTrue(inner.getName() + " is static", Modifier.isStatic(inner.getModifiers()));
            check.isTrue(inner.getName() + " is not public", !Modifier.isPublic(inner.getModifiers()));
            for (Method m : inner.getDeclaredMethods()) {
                check.isTrue("no inner method bears a public name: " + m.getName(), !plain.contains(m.getName()));
            }
        }
        check.finish();
    }
}
