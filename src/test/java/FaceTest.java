import java.lang.reflect.Constructor;
import java.lang.reflect.Field;
import java.lang.reflect.Method;
import java.lang.reflect.Modifier;
import java.util.Set;
import java.util.TreeSet;

/** The public face of the document, and nothing else that can be seen. */
public final class FaceTest {
    public static void main(String[] args) {
        Check check = new Check("FaceTest");
        Class<?> face = ExchangeRecords.class;
        check.due("the class", Modifier.toString(face.getModifiers()), "public final");
        Set<String> seen = new TreeSet<>();
        for (Method m : face.getDeclaredMethods()) {
            if (!Modifier.isPrivate(m.getModifiers()) && !m.isSynthetic()) {
                seen.add(m.toString().replace("ExchangeRecords.", "").replace("java.lang.", ""));
            }
        }
        Set<String> due = new TreeSet<>(Set.of(
                "public void add(byte)",
                "public int read()",
                "public int field(int,int)",
                "public int indicator(int,int)",
                "public int subfield(int,int,int,int)",
                "public int directory(int,int) throws ArrayIndexOutOfBoundsException",
                "public int length()",
                "public boolean leader(int,int)",
                "public int put(int,int)",
                "public void subfield2(int,int,int)",
                "public int write()",
                "public byte octet(int) throws ArrayIndexOutOfBoundsException"));
        check.due("the methods", seen.toString(), due.toString());
        for (Field f : face.getDeclaredFields()) {
            boolean hidden = Modifier.isPrivate(f.getModifiers());
            check.due("hidden " + f.getName(), hidden, !f.getName().equals("NONE"));
        }
        Constructor<?>[] made = face.getDeclaredConstructors();
        check.due("constructors", made.length, 1);
        check.due("the constructor", made[0].toString(), "public ExchangeRecords()");
        check.end();
    }
}
