import java.lang.reflect.Constructor;
import java.lang.reflect.Field;
import java.lang.reflect.Member;
import java.lang.reflect.Method;
import java.lang.reflect.Modifier;
import java.util.Set;
import java.util.TreeSet;

/** The members of the class that are not private are those of the document's face, and no others. */
final class FaceTest {
    private static final String[] FACE = {
        "int addGuest(boolean,int,int,boolean)",
        "int giveTokens(boolean,int,int)",
        "int setHere(boolean,int,boolean)",
        "int setShoes(int,int)",
        "int setLamps(int,int)",
        "int setFiddlers(int)",
        "int setPart(int,int)",
        "int dance()",
        "int danceOn()",
        "int endNight()",
        "int guest(boolean,int,int)",
        "int value(int)",
        "int shoes(int,boolean)",
        "int fiddler(int,int)",
        "int danced(int,int)",
        "int partner(int,int)",
        "int next(int)",
        "int couplesWith(int)",
        "int dancesLeft()",
        "int bestSize()",
        "double share()",
        "int append(int)",
        "int clearText()",
        "int parse()",
        "int undo()",
        "long digest()",
        "int NONE",
        "DanceHall()",
    };

    public static void main(String[] args) {
        Check check = new Check();
        check.title("face");
        Set<String> due = new TreeSet<>();
        for (String member : FACE) {
            due.add("public " + member);
        }
        check.same("the members", due.toString(), openMembers().toString());
        int modifiers = DanceHall.class.getModifiers();
        check.holds("public and final", Modifier.isPublic(modifiers) && Modifier.isFinal(modifiers));
        check.same("NONE", -1, DanceHall.NONE);
        for (Class<?> inside : DanceHall.class.getDeclaredClasses()) {
            int flags = inside.getModifiers();
            check.holds(inside + " is not public or protected and is static",
                    !Modifier.isPublic(flags) && !Modifier.isProtected(flags) && Modifier.isStatic(flags));
        }
        check.end();
    }

    private static Set<String> openMembers() {
        Set<String> found = new TreeSet<>();
        for (Method method : DanceHall.class.getDeclaredMethods()) {
            addOpen(found, method, method.getReturnType() + " " + method.getName() + types(method.getParameterTypes()));
        }
        for (Field field : DanceHall.class.getDeclaredFields()) {
            addOpen(found, field, field.getType() + " " + field.getName());
        }
        for (Constructor<?> made : DanceHall.class.getDeclaredConstructors()) {
            addOpen(found, made, made.getName() + types(made.getParameterTypes()));
        }
        return found;
    }

    private static void addOpen(Set<String> found, Member member, String text) {
        if (Modifier.isPublic(member.getModifiers())) {
            found.add("public " + text);
        } else if (!Modifier.isPrivate(member.getModifiers())) {
            found.add("open " + text);
        }
    }

    private static String types(Class<?>[] kinds) {
        StringBuilder text = new StringBuilder("(");
        for (int i = 0; i < kinds.length; i++) {
            text.append(i == 0 ? "" : ",").append(kinds[i].getSimpleName());
        }
        return text.append(")").toString();
    }
}
