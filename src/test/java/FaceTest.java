import java.lang.reflect.Constructor;
import java.lang.reflect.Field;
import java.lang.reflect.Member;
import java.lang.reflect.Method;
import java.lang.reflect.Modifier;
import java.util.Arrays;
import java.util.Set;
import java.util.TreeSet;

/** The public face: what stands there is there, and nothing else can be seen from outside. */
public final class FaceTest {
    private static final String FACE = "say(int) wipe() fault() task() step(int,int) item(int,int) known(int,int) "
        + "settle(int,int) show(int,int) ofItem(int,int) hand() out(int,boolean) answer(int,int,int) back(int,int) "
        + "said(int,int) set(int,int) join() share(int,int) table(int,int,int,int) next(int) right(int,int) "
        + "guessing(int,int):long copying(int,int,int):long misread(int) deal(int) better(int):long lean(int) "
        + "coins(int) pays(int,int,int) belief(int) plan(int,int) told(int)";

    public static void main(String[] args) throws IllegalAccessException {
        Due due = new Due("FaceTest");
        Class<HandsHall> c = HandsHall.class;
        due.is("public final", c.getModifiers(), Modifier.PUBLIC | Modifier.FINAL);
        Set<String> seen = new TreeSet<>();
        for (Method m : c.getDeclaredMethods()) {
            if (isSeen(m)) {
                StringBuilder b = new StringBuilder(m.getName()).append('(');
                for (Class<?> p : m.getParameterTypes()) {
                    b.append(b.charAt(b.length() - 1) == '(' ? "" : ",").append(p.getName());
                }
                b.append(')').append(m.getReturnType() == int.class ? "" : ":" + m.getReturnType().getName());
                due.is("plain public " + b, m.getModifiers(), Modifier.PUBLIC);
                seen.add(b.toString());
            }
        }
        Set<String> face = new TreeSet<>(Arrays.asList(FACE.split(" ")));
        due.is("methods " + seen, seen.equals(face) ? 1 : 0, 1);
        due.is("constructors", c.getDeclaredConstructors().length, 1);
        for (Constructor<?> k : c.getDeclaredConstructors()) {
            due.is("constructor's parameters", k.getParameterCount(), 0);
            due.is("constructor public", k.getModifiers(), Modifier.PUBLIC);
        }
        int constants = 0;
        for (Field f : c.getDeclaredFields()) {
            if (isSeen(f)) {
                constants++;
                due.is("constant " + f.getName(), f.getModifiers(), Modifier.PUBLIC | Modifier.STATIC | Modifier.FINAL);
            }
        }
        due.is("constants", constants, 7);
        due.is("NONE", HandsHall.NONE, -6);
        due.is("UNKNOWN", HandsHall.UNKNOWN, -1);
        due.is("OUTSIDE", HandsHall.OUTSIDE, -2);
        due.is("STATE", HandsHall.STATE, -3);
        due.is("FULL", HandsHall.FULL, -4);
        due.is("NO", HandsHall.NO, -5);
        due.is("LOST", HandsHall.LOST, -1000000000000000000L);
        due.end();
    }

    private static boolean isSeen(Member m) {
        return !Modifier.isPrivate(m.getModifiers()) && !m.isSynthetic();
    }
}
