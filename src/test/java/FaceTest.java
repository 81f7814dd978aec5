import java.lang.reflect.Constructor;
import java.lang.reflect.Field;
import java.lang.reflect.Method;
import java.lang.reflect.Modifier;
import java.util.Set;
import java.util.TreeSet;

/** "The public face" and rules 1 and 5 of LANGUAGE.md: exactly the members of the document, and all else private. */
public final class FaceTest {
    private static final String[] METHODS = {
        "public int PanelForms.board()",
        "public boolean PanelForms.corner(int,long,long) "
            + "throws java.lang.IndexOutOfBoundsException,java.lang.IllegalArgumentException",
        "public int PanelForms.run(int,long) throws java.lang.IllegalArgumentException",
        "public long PanelForms.at(int,int) throws java.lang.IndexOutOfBoundsException",
        "public boolean PanelForms.proved()",
        "public boolean PanelForms.gap(long) throws java.lang.IllegalArgumentException",
        "public long PanelForms.tab(int,int,int) "
            + "throws java.lang.IndexOutOfBoundsException,java.lang.IllegalStateException",
        "public long PanelForms.score(int,int) throws java.lang.IndexOutOfBoundsException",
        "public boolean PanelForms.part(int,long,long,long) "
            + "throws java.lang.IndexOutOfBoundsException,java.lang.IllegalArgumentException",
        "public long PanelForms.waste(int) throws java.lang.IndexOutOfBoundsException",
        "public long PanelForms.mill(int,int) throws java.lang.IndexOutOfBoundsException",
        "public boolean PanelForms.radius(long) throws java.lang.IllegalArgumentException",
        "public boolean PanelForms.bad(int,boolean) throws java.lang.IndexOutOfBoundsException",
        "public boolean PanelForms.rail(int,long) "
            + "throws java.lang.IndexOutOfBoundsException,java.lang.IllegalArgumentException",
        "public boolean PanelForms.overlaps()",
        "public int PanelForms.order(int)",
        "public boolean PanelForms.wants(int,int) "
            + "throws java.lang.IndexOutOfBoundsException,java.lang.IllegalArgumentException",
    };

    public static void main(String[] args) {
        Class<?> face = PanelForms.class;
        Check.yes("the class is public and final",
            Modifier.isPublic(face.getModifiers()) && Modifier.isFinal(face.getModifiers()));
        methods(face);
        constructors(face);
        fields(face);
        for (Class<?> inside : face.getDeclaredClasses()) {
            Check.yes(inside.getName() + " is private and static",
                Modifier.isPrivate(inside.getModifiers()) && Modifier.isStatic(inside.getModifiers()));
        }
        Check.end();
    }

    private static void methods(Class<?> face) {
        Set<String> open = new TreeSet<>();
        Set<String> openNames = new TreeSet<>();
        for (Method m : face.getDeclaredMethods()) {
            if (!Modifier.isPrivate(m.getModifiers())) {
                open.add(m.toString());
                openNames.add(m.getName());
            }
        }
        Check.same("the open methods", open.toString(), new TreeSet<>(Set.of(METHODS)).toString());
        for (Method m : face.getDeclaredMethods()) {
            if (Modifier.isPrivate(m.getModifiers())) {
                Check.no(m.getName() + " is a private method's and a public one's name",
                    openNames.contains(m.getName()));
            }
        }
    }

    private static void constructors(Class<?> face) {
        Constructor<?>[] all = face.getDeclaredConstructors();
        Check.due("constructors", all.length, 1);
        Check.same("the constructor", all[0].toString(), "public PanelForms(long,long)");
    }

    private static void fields(Class<?> face) {
        for (Field f : face.getDeclaredFields()) {
            boolean none = f.getName().equals("NONE");
            Check.yes(f.getName() + " is private, unless it is NONE", none != Modifier.isPrivate(f.getModifiers()));
            Check.yes(f.getName() + " is final, if it is static",
                !Modifier.isStatic(f.getModifiers()) || Modifier.isFinal(f.getModifiers()));
        }
        Check.due("NONE", PanelForms.NONE, -1);
    }
}
