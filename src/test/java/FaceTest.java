import java.lang.reflect.Constructor;
import java.lang.reflect.Field;
import java.lang.reflect.Method;
import java.lang.reflect.Modifier;
import java.util.TreeSet;

/** The public face, and nothing beside it. */
public final class FaceTest {
    public static void main(String[] args) {
        TreeSet<String> seen = new TreeSet<>();
        for (Method m : DosePump.class.getDeclaredMethods()) {
            if (!Modifier.isPrivate(m.getModifiers()) && !m.isSynthetic()) {
                seen.add(m.toString().replace("DosePump.", "").replace("java.lang.", ""));
            }
        }
        for (Constructor<?> c : DosePump.class.getDeclaredConstructors()) {
            seen.add(c.toString());
        }
        for (Field f : DosePump.class.getDeclaredFields()) {
            if (!Modifier.isPrivate(f.getModifiers())) {
                seen.add(f.toString().replace("DosePump.", ""));
            }
        }
        TreeSet<String> due = new TreeSet<>();
        String index = " throws IndexOutOfBoundsException";
        String argument = " throws IllegalArgumentException";
        String both = index + ",IllegalArgumentException";
        String all = both + ",IllegalStateException";
        due.add("public static final int REFUSED");
        due.add("public static final int HARD");
        due.add("public DosePump()");
        due.add("public void drug(int,int,int,int,int,int,int)" + all);
        due.add("public void more(int,int,int,int,int,int)" + all);
        due.add("public int key(int)" + argument);
        due.add("public int ticks(int)" + argument);
        due.add("public int flow(int,int)" + both);
        due.add("public boolean air(int,boolean)" + index);
        due.add("public boolean door(int,boolean)" + index);
        due.add("public boolean mains(boolean)");
        due.add("public int about(int)" + index);
        due.add("public int channel(int,int)" + index);
        due.add("public int entry(int)" + index);
        due.add("public int rate(int,int,int)" + both);
        due.add("public int log(int,int)" + index);
        due.add("public long chain()");
        Due.same("the face", seen.toString(), due.toString());
        Due.is("the class is public and final", DosePump.class.getModifiers(), Modifier.PUBLIC | Modifier.FINAL);
        Due.is("REFUSED", DosePump.REFUSED, -1);
        Due.is("HARD", DosePump.HARD, -2);
        Due.end();
    }
}
