import java.lang.reflect.Member;
import java.lang.reflect.Method;
import java.lang.reflect.Modifier;
import java.util.List;
import java.util.Set;
import java.util.TreeSet;

/** The members of the class that are not private are those of the document's face, with the exceptions they name. */
final class FaceTest {
    private static final String[] FACE = {
        "public static final int NONE",
        "public DanceHall()",
        "public int addGuest(boolean,int,int,boolean) throws IllegalArgumentException,IllegalStateException",
        "public int giveTokens(boolean,int,int)"
                + " throws IndexOutOfBoundsException,IllegalArgumentException,IllegalStateException",
        "public int setHere(boolean,int,boolean) throws IndexOutOfBoundsException",
        "public int setShoes(int,int) throws IndexOutOfBoundsException,IllegalArgumentException",
        "public int setLamps(int,int) throws IllegalArgumentException",
        "public int setFiddlers(int) throws IllegalArgumentException",
        "public int setPart(int,int) throws IndexOutOfBoundsException,IllegalArgumentException",
        "public int dance() throws IllegalStateException",
        "public int danceOn()",
        "public int endNight()",
        "public int guest(boolean,int,int) throws IndexOutOfBoundsException,IllegalArgumentException",
        "public int value(int) throws IllegalArgumentException",
        "public int shoes(int,boolean) throws IndexOutOfBoundsException",
        "public int fiddler(int,int) throws IndexOutOfBoundsException,IllegalArgumentException",
        "public int danced(int,int) throws IndexOutOfBoundsException",
        "public int partner(int,int) throws IndexOutOfBoundsException",
        "public int next(int) throws IndexOutOfBoundsException",
        "public int couplesWith(int) throws IllegalArgumentException",
        "public int dancesLeft()",
        "public int bestSize()",
        "public double share()",
        "public int append(int) throws IllegalArgumentException,IllegalStateException",
        "public int clearText()",
        "public int parse()",
        "public int undo() throws IllegalStateException",
        "public long digest()",
    };

    private static final Check check = new Check();

    public static void main(String[] args) {
        check.title("face");
        Set<String> due = new TreeSet<>(List.of(FACE));
        check.same("the members", due.toString(), openMembers().toString());
        int modifiers = DanceHall.class.getModifiers();
        check.holds("public and final", Modifier.isPublic(modifiers) && Modifier.isFinal(modifiers));
        check.same("NONE", -1, DanceHall.NONE);
        namesAreFree(DanceHall.class);
        for (Class<?> inside : DanceHall.class.getDeclaredClasses()) {
            int flags = inside.getModifiers();
            check.holds(inside + " is not public or protected and is static",
                    !Modifier.isPublic(flags) && !Modifier.isProtected(flags) && Modifier.isStatic(flags));
            namesAreFree(inside);
        }
        check.end();
    }

    private static Set<String> openMembers() {
        Set<String> found = new TreeSet<>();
        addOpen(found, DanceHall.class.getDeclaredMethods());
        addOpen(found, DanceHall.class.getDeclaredFields());
        addOpen(found, DanceHall.class.getDeclaredConstructors());
        return found;
    }

    private static void addOpen(Set<String> found, Member[] members) {
        for (Member member : members) {
            if (!Modifier.isPrivate(member.getModifiers())) {
                found.add(member.toString().replace("java.lang.", "").replace("DanceHall.", ""));
            }
        }
    }

    /** No method that is not of the face bears the name of one that is. */
    private static void namesAreFree(Class<?> owner) {
        Set<String> taken = new TreeSet<>();
        for (Method method : DanceHall.class.getMethods()) {
            taken.add(method.getName());
        }
        for (Method method : owner.getDeclaredMethods()) {
            boolean ofTheFace = owner == DanceHall.class && Modifier.isPublic(method.getModifiers());
            check.holds(method + " has a name of its own", ofTheFace || !taken.contains(method.getName()));
        }
    }
}
