import java.util.function.Consumer;
import java.util.function.Supplier;

/** What the tests of the promises share: halls to begin with, texts, rows of answers, calls that change nothing. */
class HallCheck {
    static final Class<IndexOutOfBoundsException> INDEX = IndexOutOfBoundsException.class;
    static final Class<IllegalArgumentException> ARGUMENT = IllegalArgumentException.class;
    static final Class<IllegalStateException> STATE = IllegalStateException.class;
    static final int NONE = DanceHall.NONE;
    static final int FAR = Integer.MAX_VALUE;
    static final int DEEP = Integer.MIN_VALUE;

    static final Check check = new Check();

    // ---- halls to begin with

    /** A hall with so many leaders and followers, who have shoes of size 5 and these tokens. */
    static DanceHall hallOf(int leaders, int followers, int tokens) {
        DanceHall x = new DanceHall();
        for (int i = 0; i < leaders; i++) {
            x.addGuest(true, tokens, 5, true);
        }
        for (int i = 0; i < followers; i++) {
            x.addGuest(false, tokens, 5, true);
        }
        return x;
    }

    /** A hall with the guests of a text. */
    static DanceHall hallOf(String text) {
        DanceHall x = read(new DanceHall(), text);
        check.holds(text + " can be read", x.parse() >= 0);
        return x;
    }

    /** A hall in its second night, with couples, a text, a bag, and two saved states. */
    static DanceHall busyHall() {
        DanceHall x = hallOf(3, 2, 20);
        x.dance();
        x.endNight();
        read(x, "l1,1;f2,2-;");
        dropSaved(x);
        x.addGuest(false, 8, 5, true);
        x.dance();
        return x;
    }

    /** The busy hall with as many saved states as there may be. */
    static DanceHall savedFull() {
        DanceHall x = busyHall();
        x.setLamps(4, 41);
        x.dance();
        return x;
    }

    /** A hall with eight of each, lamps for all of them, and 30 dances danced this night. */
    static DanceHall hallBehind30Dances() {
        DanceHall x = hallOf(8, 8, 99);
        x.setLamps(1, 999);
        check.same("danceOn()", 30, x.danceOn());
        x.setLamps(6, 999);
        return x;
    }

    static DanceHall read(DanceHall x, String text) {
        x.clearText();
        for (int i = 0; i < text.length(); i++) {
            x.append(text.charAt(i));
        }
        return x;
    }

    static int parsed(String text) {
        return read(new DanceHall(), text).parse();
    }

    /** Four calls that change nothing, undone: the hall is as it was, but no state is saved. */
    static DanceHall dropSaved(DanceHall x) {
        int pairs = x.shoes(9, false);
        for (int i = 0; i < 4; i++) {
            x.setShoes(9, pairs);
        }
        for (int i = 0; i < 4; i++) {
            x.undo();
        }
        return x;
    }

    /** Only the guests between these are here. */
    static void allHere(DanceHall x, int firstLeader, int lastLeader, int firstFollower, int lastFollower) {
        int leaders = x.value(0);
        for (int guest = 0; guest < leaders; guest++) {
            x.setHere(true, guest, firstLeader <= guest && guest <= lastLeader);
        }
        int followers = x.value(1);
        for (int guest = 0; guest < followers; guest++) {
            x.setHere(false, guest, firstFollower <= guest && guest <= lastFollower);
        }
    }

    /** Two guests dance with each other; all others stay at home for that. */
    static void danceOfTwo(DanceHall x, int leader, int follower) {
        allHere(x, leader, leader, follower, follower);
        check.same("a dance of two", 1, x.dance());
        allHere(x, 0, 7, 0, 7);
    }

    // ---- rows of answers

    static void values(DanceHall x, int... due) {
        for (int what = 0; what < due.length; what++) {
            check.same("value(" + what + ")", due[what], x.value(what));
        }
    }

    static void facts(DanceHall x, boolean leads, int guest, int... due) {
        for (int what = 0; what < due.length; what++) {
            check.same("guest(" + leads + "," + guest + "," + what + ")", due[what], x.guest(leads, guest, what));
        }
    }

    /** One fact of each leader, or of each follower. */
    static void factOfAll(DanceHall x, boolean leads, int what, int... due) {
        check.same("guests", due.length, x.value(leads ? 0 : 1));
        for (int guest = 0; guest < due.length; guest++) {
            check.same("guest(" + leads + "," + guest + "," + what + ")", due[guest], x.guest(leads, guest, what));
        }
    }

    static void nexts(DanceHall x, int... due) {
        for (int leader = 0; leader < due.length; leader++) {
            check.same("next(" + leader + ")", due[leader], x.next(leader));
        }
    }

    static void partners(DanceHall x, int dance, int... due) {
        for (int leader = 0; leader < due.length; leader++) {
            check.same("partner(" + dance + "," + leader + ")", due[leader], x.partner(dance, leader));
        }
    }

    /** One fact of each fiddler. */
    static void fiddlers(DanceHall x, int what, int... due) {
        check.same("fiddlers", due.length, x.value(10));
        for (int fiddler = 0; fiddler < due.length; fiddler++) {
            check.same("fiddler(" + fiddler + "," + what + ")", due[fiddler], x.fiddler(fiddler, what));
        }
    }

    // ---- calls that change nothing

    /** The call throws this kind and changes nothing. */
    static void fails(DanceHall x, Class<? extends RuntimeException> kind, String what, Check.Call call) {
        long before = x.digest();
        check.fails(kind, what, call);
        check.same("digest() after " + what, before, x.digest());
    }

    /** The call throws this kind; the hall then is in all like one that was made alike, its saved states too. */
    static void refused(Supplier<DanceHall> made, Class<? extends RuntimeException> kind, String what,
            Consumer<DanceHall> call) {
        DanceHall x = made.get();
        check.fails(kind, what, () -> call.accept(x));
        check.same("all behind " + what, wholeOf(made.get()), wholeOf(x));
    }

    /** The call leaves the hall in all like one that was made alike, its saved states too. */
    static void quiet(Supplier<DanceHall> made, String what, Consumer<DanceHall> call) {
        DanceHall x = made.get();
        call.accept(x);
        check.same("all behind " + what, wholeOf(made.get()), wholeOf(x));
    }

    /** The call saves one state, and undo brings back all. */
    static void undoable(Supplier<DanceHall> made, String what, Consumer<DanceHall> call) {
        DanceHall x = made.get();
        call.accept(x);
        check.same("states that remain behind " + what, savedStates(made.get()), x.undo());
        check.same("all behind undo of " + what, wholeOf(made.get()), wholeOf(x));
    }

    /** How many states can be brought back; none is left then. */
    static int savedStates(DanceHall x) {
        int undone = 0;
        while (undone < 9 && undoes(x)) {
            undone++;
        }
        return undone;
    }

    private static boolean undoes(DanceHall x) {
        try {
            x.undo();
            return true;
        } catch (IllegalStateException e) {
            return false;
        }
    }

    /** What a hall answers, down to its oldest saved state and its text; the hall is worn out by it. */
    static String wholeOf(DanceHall x) {
        StringBuilder all = new StringBuilder();
        tell(all, x);
        for (int i = 0; i < 9 && undoes(x); i++) {
            tell(all, x);
        }
        x.setFiddlers(4);
        tell(all, x);
        all.append("text ").append(x.parse()).append(' ');
        tell(all, x);
        return all.append(x.clearText()).toString();
    }

    private static void tell(StringBuilder all, DanceHall x) {
        all.append(x.digest()).append(' ').append(x.share()).append(" book ");
        int dances = Math.min(x.value(7), 3);
        int leaders = x.value(0);
        for (int dance = 0; dance < dances; dance++) {
            for (int leader = 0; leader < leaders; leader++) {
                all.append(x.partner(dance, leader)).append(' ');
            }
        }
    }
}
