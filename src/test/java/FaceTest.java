import java.lang.reflect.Constructor;
import java.lang.reflect.Field;
import java.lang.reflect.Method;
import java.lang.reflect.Modifier;
import java.util.Arrays;
import java.util.Set;
import java.util.TreeSet;

/** The class shows the document's face and no other member. */
public final class FaceTest {
    private static final Set<String> DUE = new TreeSet<>(Arrays.asList(
            "public static final int NONE",
            "public LibraryDrawer(long)",
            "public int draw(int,int)",
            "public int part(int,int)",
            "public int letter(int)",
            "public int majority(int)",
            "public boolean ends(int)",
            "public int planted(int)",
            "public void verdict(int,boolean)",
            "public int shorter()",
            "public int left(int)",
            "public boolean minimal()",
            "public boolean same(long,int,int)"));

    public static void main(String[] args) {
        Set<String> shown = shownMembers();
        boolean right = shown.equals(DUE)
                && Modifier.isPublic(LibraryDrawer.class.getModifiers())
                && Modifier.isFinal(LibraryDrawer.class.getModifiers())
                && noInnerNameIsPublic();
        if (!right) {
            System.out.println("the face is " + shown + ", due is " + DUE);
            System.exit(1);
        }
        System.out.println("the face is as due");
    }

    private static Set<String> shownMembers() {
        Set<String> shown = new TreeSet<>();
        for (Field f : LibraryDrawer.class.getDeclaredFields()) {
            if (!Modifier.isPrivate(f.getModifiers())) {
                shown.add(f.toString().replace("LibraryDrawer.", ""));
            }
        }
        for (Constructor<?> c : LibraryDrawer.class.getDeclaredConstructors()) {
            if (!Modifier.isPrivate(c.getModifiers())) {
                shown.add(c.toString());
            }
        }
        for (Method m : LibraryDrawer.class.getDeclaredMethods()) {
            if (!Modifier.isPrivate(m.getModifiers())) {
                shown.add(m.toString().replace("LibraryDrawer.", ""));
            }
        }
        return shown;
    }

    private static boolean noInnerNameIsPublic() {
        Set<String> names = new TreeSet<>();
        for (String member : DUE) {
            if (member.contains("(")) {
                names.add(member.substring(member.lastIndexOf(' ') + 1, member.indexOf('(')));
            }
        }
        for (Method m : LibraryDrawer.class.getDeclaredMethods()) {
            if (Modifier.isPrivate(m.getModifiers()) && names.contains(m.getName())) {
                System.out.println(m + " bears the name of a public one");
                return false;
            }
        }
        return true;
    }
}
