import java.lang.reflect.Constructor;
import java.lang.reflect.Field;
import java.lang.reflect.Member;
import java.lang.reflect.Method;
import java.lang.reflect.Modifier;
import java.util.Map;
import java.util.Set;
import java.util.TreeMap;
import java.util.TreeSet;

/** The face is the document's, and nothing else of the class is seen. */
final class FaceTest {
    private static final Check CHECK = new Check();

    public static void main(String[] args) {
        Map<String, String> due = new TreeMap<>();
        due.put("add", "public void DctFilter.add(byte) throws java.lang.UnsupportedOperationException");
        due.put("read", "public int DctFilter.read()");
        due.put("sample", "public int DctFilter.sample(int,int,int) throws java.lang.IndexOutOfBoundsException");
        due.put("coefficient", "public int DctFilter.coefficient(int,int) throws java.lang.ArrayIndexOutOfBoundsException");
        due.put("exact", "public long DctFilter.exact(int,int) throws java.lang.ArrayIndexOutOfBoundsException");
        due.put("told", "public int DctFilter.told(int,int) throws java.lang.IndexOutOfBoundsException");
        String both = " throws java.lang.IndexOutOfBoundsException,java.lang.IllegalArgumentException";
        due.put("table", "public int DctFilter.table(int,int,int)" + both);
        due.put("point", "public int DctFilter.point(int,int,int)" + both);
        due.put("scan", "public int DctFilter.scan(int,int,int)");
        due.put("restart", "public int DctFilter.restart(int) throws java.lang.IllegalArgumentException");
        due.put("encode", "public int DctFilter.encode(int)"
                + " throws java.lang.IllegalArgumentException,java.lang.IllegalStateException");
        due.put("octet", "public byte DctFilter.octet(int) throws java.lang.ArrayIndexOutOfBoundsException");
        due.put("take", "public int DctFilter.take()");
        methods(due);
        members();
        CHECK.end();
    }

    private static void methods(Map<String, String> due) {
        Set<String> found = new TreeSet<>();
        for (Method method : DctFilter.class.getDeclaredMethods()) {
            if (Modifier.isPublic(method.getModifiers())) {
                found.add(method.getName());
                CHECK.same(method + " is of the face", method.toString().equals(due.get(method.getName())) ? 1 : 0, 1);
            }
        }
        CHECK.same("methods " + found, found.equals(due.keySet()) ? 1 : 0, 1);
        for (Class<?> inside : DctFilter.class.getDeclaredClasses()) {
            CHECK.same(inside + " is static", Modifier.isStatic(inside.getModifiers()) ? 1 : 0, 1);
            for (Method method : inside.getDeclaredMethods()) {
                CHECK.same(method + " has a name of its own", due.containsKey(method.getName()) ? 1 : 0, 0);
            }
        }
    }

    private static void members() {
        CHECK.same("final", Modifier.isFinal(DctFilter.class.getModifiers()) ? 1 : 0, 1);
        Constructor<?>[] constructors = DctFilter.class.getDeclaredConstructors();
        CHECK.same("constructors", constructors.length, 1);
        CHECK.same("without parameters", constructors[0].getParameterCount(), 0);
        for (Field field : DctFilter.class.getDeclaredFields()) {
            hidden(field);
            boolean fixed = !Modifier.isStatic(field.getModifiers()) || Modifier.isFinal(field.getModifiers());
            CHECK.same(field + " does not change for all", fixed ? 1 : 0, 1);
        }
        for (Method method : DctFilter.class.getDeclaredMethods()) {
            if (!Modifier.isPublic(method.getModifiers())) {
                hidden(method);
            }
        }
    }

    private static void hidden(Member member) {
        CHECK.same(member + " is private", Modifier.isPrivate(member.getModifiers()) ? 1 : 0, 1);
    }
}
