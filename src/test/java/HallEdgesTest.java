import java.util.function.Consumer;

/** Promises 1 to 17, sentence by sentence: each has a test of its own, at the edges that it names. */
final class HallEdgesTest extends HallCheck {
    private static final String LEADS = "`leads`: true for a leader, false for a follower";
    private static final String GUEST = "`guest`: number of such a guest";
    private static final String SIZE = "`size`: 1 to 9";
    private static final String NO_GUEST = "Throws `IndexOutOfBoundsException` if there is no such guest";
    private static final String NO_SIZE = "Throws `IndexOutOfBoundsException` if size is out of range";
    private static final String NO_FIDDLER = "Throws `IndexOutOfBoundsException` if there is no such fiddler";
    private static final String NO_FACT = "Throws `IllegalArgumentException` if what is out of range";
    private static final String UNDOABLE = "Undoable.";

    private static final int[] OUT_OF_FACTS = {-1, DEEP, FAR};

    private static final Sentences says = new Sentences(check);

    public static void main(String[] args) {
        newObject();
        addGuest();
        addGuestOutOfRange();
        giveTokens();
        giveTokensOutOfRange();
        setHere();
        setShoes();
        setLamps();
        setFiddlers();
        setPart();
        dance();
        danceOn();
        endNight();
        guest();
        value();
        shoes();
        fiddler();
        danced();
        partner();
        says.compareWithDocument();
        check.end();
    }

    // ---- helpers

    /** One state is saved, undo brings back all, and beside four saved states the oldest one is dropped. */
    private static void saves(String what, Consumer<DanceHall> call) {
        undoable(() -> dropSaved(busyHall()), what, call);
        undoable(HallCheck::busyHall, what, call);
        DanceHall x = savedFull();
        call.accept(x);
        check.same("four states are saved behind " + what, 3, x.undo());
        DanceHall y = savedFull();
        y.setShoes(9, y.shoes(9, false));
        y.undo();
        check.same("all but the oldest state behind " + what, wholeOf(y), wholeOf(x));
    }

    private interface GuestCall {
        void on(DanceHall x, boolean leads, int guest);
    }

    /** No such guest: too small, too large, far away, none at all, and one that is only on the other side. */
    private static void needsGuest(GuestCall call) {
        for (int guest : new int[] {-1, 3, 4, 8, FAR, DEEP}) {
            refused(HallCheck::busyHall, INDEX, "leader " + guest, x -> call.on(x, true, guest));
            refused(HallCheck::busyHall, INDEX, "follower " + guest, x -> call.on(x, false, guest));
        }
        refused(DanceHall::new, INDEX, "no leader at all", x -> call.on(x, true, 0));
        refused(DanceHall::new, INDEX, "no follower at all", x -> call.on(x, false, 0));
        refused(() -> hallOf(1, 3, 5), INDEX, "a follower's number", x -> call.on(x, true, 1));
        refused(() -> hallOf(3, 1, 5), INDEX, "a leader's number", x -> call.on(x, false, 1));
        refused(() -> hallOf(8, 8, 5), INDEX, "leader 8", x -> call.on(x, true, 8));
        refused(() -> hallOf(8, 8, 5), INDEX, "follower 8", x -> call.on(x, false, 8));
        refused(HallEdgesTest::hallThatLostItsGuests, INDEX, "a leader who was undone", x -> call.on(x, true, 1));
        refused(HallEdgesTest::hallThatLostItsGuests, INDEX, "a follower who was undone", x -> call.on(x, false, 1));
    }

    private static DanceHall hallThatLostItsGuests() {
        DanceHall x = hallOf(2, 2, 5);
        read(x, "l5,5;f5,5;").parse();
        return x;
    }

    // ---- promise 1

    private static void newObject() {
        says.promise(1);
        says.edge("Creates a hall without guests, on night 0.", () -> {
            DanceHall x = new DanceHall();
            values(x, 0, 0, 3, 60, 3, 6, 0, 0, 0, 0, 2, 2, 0, 0);
            fails(x, INDEX, "leader 0", () -> x.guest(true, 0, 0));
            fails(x, INDEX, "follower 0", () -> x.guest(false, 0, 0));
            fails(x, INDEX, "danced(0, 0)", () -> x.danced(0, 0));
            fails(x, INDEX, "dance 0", () -> x.partner(0, 0));
            fails(x, INDEX, "next(0)", () -> x.next(0));
            fails(x, STATE, "undo()", x::undo);
            fiddlers(x, 0, 1, 1);
            fiddlers(x, 1, 0, 0);
            fiddlers(x, 2, 0, 0);
            check.same("couplesWith(6)", 0, x.couplesWith(6));
            check.same("dancesLeft()", 1, x.dancesLeft());
            check.same("bestSize()", NONE, x.bestSize());
            check.same("share()", 0.0, x.share());
            check.same("clearText()", 0, x.clearText());
            check.same("first leader", 0, x.addGuest(true, 1, 1, true));
            check.same("another hall is empty", 0, new DanceHall().value(0));
        });
    }

    // ---- promise 2

    private static void addGuest() {
        says.promise(2);
        says.edge("Adds a guest who is here.", () -> {
            DanceHall x = new DanceHall();
            x.addGuest(false, 3, 4, true);
            x.setHere(false, 0, false);
            x.addGuest(false, 3, 4, true);
            factOfAll(x, false, 3, 0, 1);
            check.same("all dances", 0, x.guest(false, 1, 7));
        });
        says.edge(UNDOABLE, () -> {
            saves("a leader", x -> x.addGuest(true, 5, 5, false));
            saves("a follower", x -> x.addGuest(false, 5, 5, false));
            DanceHall y = hallOf(8, 0, 5);
            y.undo();
            check.same("there is room again", 7, y.addGuest(true, 9, 9, false));
            facts(y, true, 7, 9, 9, 0, 1, 1, 9, 0, 0);
        });
        says.edge(LEADS, () -> {
            DanceHall x = new DanceHall();
            x.addGuest(true, 1, 1, true);
            values(x, 1, 0);
            x.addGuest(false, 2, 2, true);
            x.addGuest(false, 3, 3, true);
            values(x, 1, 2);
            factOfAll(x, true, 0, 1);
            factOfAll(x, false, 0, 2, 3);
        });
        says.edge("`tokens`: 0 to 99", () -> {
            DanceHall x = new DanceHall();
            for (int tokens : new int[] {0, 1, 98, 99}) {
                int guest = x.addGuest(true, tokens, 5, true);
                check.same("tokens", tokens, x.guest(true, guest, 0));
                check.same("can dance", tokens == 0 ? 0 : 1, x.guest(true, guest, 4));
            }
        });
        says.edge(SIZE, () -> {
            DanceHall x = new DanceHall();
            for (int size = 1; size <= 9; size++) {
                int guest = x.addGuest(size < 9, 1, size, false);
                check.same("size", size, x.guest(size < 9, guest, 1));
                check.same("lent", size, x.guest(size < 9, guest, 5));
            }
        });
        says.edge("`shoes`: whether it has shoes of its own", () -> {
            DanceHall x = new DanceHall();
            x.addGuest(true, 1, 1, true);
            x.addGuest(true, 1, 1, false);
            factOfAll(x, true, 2, 1, 0);
            factOfAll(x, true, 5, 0, 1);
        });
        says.edge("Returns the number of the guest.", () -> {
            DanceHall x = new DanceHall();
            for (int guest = 0; guest < 8; guest++) {
                check.same("leader", guest, x.addGuest(true, 1, 1, true));
            }
            for (int guest = 0; guest < 8; guest++) {
                check.same("follower", guest, x.addGuest(false, 1, 1, true));
            }
        });
    }

    private static void addGuestOutOfRange() {
        says.edge("Throws `IllegalArgumentException` if tokens or size is out of range", () -> {
            for (int tokens : new int[] {-1, 100, FAR, DEEP}) {
                refused(HallCheck::savedFull, ARGUMENT, "tokens " + tokens, x -> x.addGuest(true, tokens, 5, true));
            }
            for (int size : new int[] {-1, 0, 10, FAR, DEEP}) {
                refused(HallCheck::savedFull, ARGUMENT, "size " + size, x -> x.addGuest(false, 5, size, false));
            }
            refused(HallCheck::savedFull, ARGUMENT, "both", x -> x.addGuest(false, 100, 10, false));
        });
        says.edge("Throws `IllegalStateException` if there are 8 such guests", () -> {
            refused(() -> hallOf(8, 7, 5), STATE, "a ninth leader", x -> x.addGuest(true, 5, 5, true));
            refused(() -> hallOf(7, 8, 5), STATE, "a ninth follower", x -> x.addGuest(false, 5, 5, true));
            check.same("an eighth leader beside 8 followers", 7, hallOf(7, 8, 5).addGuest(true, 5, 5, true));
            check.same("an eighth follower beside 8 leaders", 7, hallOf(8, 7, 5).addGuest(false, 5, 5, true));
            DanceHall x = hallOf(8, 0, 5);
            allHere(x, 9, 9, 9, 9);
            fails(x, STATE, "though all are at home", () -> x.addGuest(true, 5, 5, true));
            DanceHall y = hallOf("l1,1;".repeat(8));
            fails(y, STATE, "eight from a text", () -> y.addGuest(true, 5, 5, true));
        });
    }

    // ---- promise 3

    private static void giveTokens() {
        says.promise(3);
        says.edge("Gives tokens to a guest, or takes them.", () -> {
            DanceHall x = hallOf(2, 2, 50);
            x.giveTokens(true, 1, 7);
            x.giveTokens(false, 0, -50);
            factOfAll(x, true, 0, 50, 57);
            factOfAll(x, false, 0, 0, 50);
            check.same("the bag stays", 0, x.value(9));
        });
        says.edge(UNDOABLE, () -> {
            saves("giving", x -> x.giveTokens(true, 1, 2));
            saves("taking", x -> x.giveTokens(false, 1, -2));
            saves("none", x -> x.giveTokens(false, 1, 0));
        });
        says.edge(LEADS, () -> {
            DanceHall x = hallOf(1, 1, 50);
            x.giveTokens(true, 0, 1);
            check.same("the leader's", 51, x.guest(true, 0, 0));
            check.same("the follower's", 50, x.guest(false, 0, 0));
            x.giveTokens(false, 0, 2);
            check.same("the leader's", 51, x.guest(true, 0, 0));
            check.same("the follower's", 52, x.guest(false, 0, 0));
        });
        says.edge(GUEST, () -> {
            DanceHall x = hallOf(8, 8, 50);
            x.giveTokens(true, 0, 1);
            x.giveTokens(true, 7, 2);
            x.giveTokens(false, 0, 3);
            x.giveTokens(false, 7, 4);
            factOfAll(x, true, 0, 51, 50, 50, 50, 50, 50, 50, 52);
            factOfAll(x, false, 0, 53, 50, 50, 50, 50, 50, 50, 54);
        });
        says.edge("`tokens`: -99 to 99", () -> {
            DanceHall x = hallOf(1, 0, 0);
            check.same("99", 99, x.giveTokens(true, 0, 99));
            check.same("0", 99, x.giveTokens(true, 0, 0));
            check.same("-99", 0, x.giveTokens(true, 0, -99));
            check.same("98", 98, x.giveTokens(true, 0, 98));
            check.same("-98", 0, x.giveTokens(true, 0, -98));
        });
        says.edge("Returns its tokens then.", () -> {
            DanceHall x = hallOf(1, 1, 50);
            check.same("more", 53, x.giveTokens(false, 0, 3));
            check.same("fewer", 50, x.giveTokens(false, 0, -3));
            x.dance();
            check.same("behind a dance", 50, x.giveTokens(false, 0, 1));
            x.setHere(false, 0, false);
            check.same("at home", 51, x.giveTokens(false, 0, 1));
        });
    }

    private static void giveTokensOutOfRange() {
        says.edge(NO_GUEST, () -> {
            needsGuest((x, leads, guest) -> x.giveTokens(leads, guest, 0));
            needsGuest((x, leads, guest) -> x.giveTokens(leads, guest, DEEP));
        });
        says.edge("Throws `IllegalArgumentException` if tokens is out of range", () -> {
            for (int tokens : new int[] {100, -100, FAR, DEEP, FAR - 98, DEEP + 50}) {
                refused(() -> hallOf(1, 1, 99), ARGUMENT, "tokens " + tokens, x -> x.giveTokens(true, 0, tokens));
                refused(() -> hallOf(1, 1, 0), ARGUMENT, "tokens " + tokens, x -> x.giveTokens(false, 0, tokens));
                refused(HallCheck::savedFull, ARGUMENT, "tokens " + tokens, x -> x.giveTokens(false, 0, tokens));
            }
        });
        says.edge("Throws `IllegalStateException` if it would have fewer than 0 or more than 99", () -> {
            refused(() -> hallOf(1, 1, 20), STATE, "-1", x -> x.giveTokens(true, 0, -21));
            refused(() -> hallOf(1, 1, 20), STATE, "100", x -> x.giveTokens(false, 0, 80));
            refused(() -> hallOf(1, 1, 0), STATE, "fewer than 0", x -> x.giveTokens(false, 0, -1));
            refused(() -> hallOf(1, 1, 0), STATE, "far fewer than 0", x -> x.giveTokens(false, 0, -99));
            refused(() -> hallOf(1, 1, 99), STATE, "more than 99", x -> x.giveTokens(true, 0, 1));
            refused(() -> hallOf(1, 1, 99), STATE, "far more than 99", x -> x.giveTokens(true, 0, 99));
            refused(HallCheck::savedFull, STATE, "-1 beside four saved states", x -> x.giveTokens(true, 2, -99));
            check.same("0 is enough", 0, hallOf(1, 1, 20).giveTokens(true, 0, -20));
            check.same("99 is not too many", 99, hallOf(1, 1, 20).giveTokens(false, 0, 79));
        });
    }

    // ---- promise 4

    private static void setHere() {
        says.promise(4);
        says.edge("Lets a guest go home, or come back.", () -> {
            DanceHall x = hallOf(2, 1, 5);
            x.dance();
            x.setHere(true, 0, false);
            facts(x, true, 0, 4, 5, 1, 0, 0, 0, 1, 1);
            check.same("who went home does not dance", 1, x.dance());
            partners(x, 1, NONE, 0);
            x.setHere(true, 0, true);
            facts(x, true, 0, 4, 5, 1, 1, 1, 0, 1, 1);
            check.same("it has danced with them still", 0, x.danced(0, 0));
        });
        says.edge(UNDOABLE, () -> {
            saves("going", x -> x.setHere(true, 0, false));
            saves("a follower's going", x -> x.setHere(false, 2, false));
            saves("being here already", x -> x.setHere(true, 0, true));
            undoable(HallEdgesTest::hallWithoutGuest0, "coming back", x -> x.setHere(true, 0, true));
        });
        says.edge(LEADS, () -> {
            DanceHall x = hallOf(1, 1, 5);
            x.setHere(false, 0, false);
            factOfAll(x, true, 3, 1);
            factOfAll(x, false, 3, 0);
            x.setHere(true, 0, false);
            x.setHere(false, 0, true);
            factOfAll(x, true, 3, 0);
            factOfAll(x, false, 3, 1);
        });
        says.edge(GUEST, () -> {
            DanceHall x = hallOf(8, 8, 5);
            x.setHere(true, 0, false);
            x.setHere(true, 7, false);
            x.setHere(false, 7, false);
            factOfAll(x, true, 3, 0, 1, 1, 1, 1, 1, 1, 0);
            factOfAll(x, false, 3, 1, 1, 1, 1, 1, 1, 1, 0);
        });
        says.edge("`here`: whether it is here then", () -> {
            DanceHall x = hallOf(1, 0, 5);
            for (boolean here : new boolean[] {true, false, false, true, true}) {
                x.setHere(true, 0, here);
                check.same("here", here ? 1 : 0, x.guest(true, 0, 3));
            }
        });
        says.edge("Returns 1 if it was here, otherwise 0.", () -> {
            DanceHall x = hallOf(1, 1, 5);
            check.same("here, goes", 1, x.setHere(false, 0, false));
            check.same("gone, goes", 0, x.setHere(false, 0, false));
            check.same("gone, comes", 0, x.setHere(false, 0, true));
            check.same("here, comes", 1, x.setHere(false, 0, true));
            x.setHere(false, 0, false);
            x.endNight();
            check.same("here in the next night", 1, x.setHere(false, 0, true));
        });
        says.edge(NO_GUEST, () -> {
            needsGuest((x, leads, guest) -> x.setHere(leads, guest, true));
            needsGuest((x, leads, guest) -> x.setHere(leads, guest, false));
        });
    }

    private static DanceHall hallWithoutGuest0() {
        DanceHall x = hallOf(2, 2, 9);
        x.setHere(true, 0, false);
        return dropSaved(x);
    }

    // ---- promise 5

    private static void setShoes() {
        says.promise(5);
        says.edge("Sets the pairs of shoes of a size.", () -> {
            DanceHall x = new DanceHall();
            x.setShoes(4, 7);
            for (int size = 1; size <= 9; size++) {
                check.same("pairs of size " + size, size == 4 ? 7 : 1, x.shoes(size, false));
                check.same("left of size " + size, size == 4 ? 7 : 1, x.shoes(size, true));
            }
        });
        says.edge(UNDOABLE, () -> {
            saves("shoes of size 1", x -> x.setShoes(1, 9));
            saves("shoes of size 9", x -> x.setShoes(9, 0));
            saves("as many as there are", x -> x.setShoes(5, 1));
        });
        says.edge(SIZE, () -> {
            DanceHall x = new DanceHall();
            for (int size = 1; size <= 9; size++) {
                check.same("before", 1, x.setShoes(size, size - 1));
            }
            for (int size = 1; size <= 9; size++) {
                check.same("pairs", size - 1, x.shoes(size, false));
            }
        });
        says.edge("`pairs`: 0 to 9", () -> {
            DanceHall x = new DanceHall();
            for (int pairs = 0; pairs <= 9; pairs++) {
                x.setShoes(9, pairs);
                check.same("pairs", pairs, x.shoes(9, false));
            }
        });
        says.edge("Returns the previous number.", () -> {
            DanceHall x = new DanceHall();
            check.same("at first", 1, x.setShoes(3, 9));
            check.same("nine", 9, x.setShoes(3, 0));
            check.same("none", 0, x.setShoes(3, 0));
            check.same("none", 0, x.setShoes(3, 2));
            x.addGuest(true, 1, 3, false);
            check.same("who is lent some does not matter", 2, x.setShoes(3, 1));
        });
        says.edge(NO_SIZE, () -> {
            for (int size : new int[] {0, 10, -1, FAR, DEEP}) {
                refused(HallCheck::savedFull, INDEX, "size " + size, x -> x.setShoes(size, 1));
                refused(HallCheck::savedFull, INDEX, "wrong pairs of size " + size, x -> x.setShoes(size, -1));
            }
        });
        says.edge("Throws `IllegalArgumentException` if pairs is out of range", () -> {
            for (int pairs : new int[] {-1, 10, FAR, DEEP}) {
                refused(HallCheck::savedFull, ARGUMENT, "pairs " + pairs, x -> x.setShoes(1, pairs));
                refused(HallCheck::savedFull, ARGUMENT, "pairs " + pairs, x -> x.setShoes(9, pairs));
            }
        });
    }

    // ---- promise 6

    private static void setLamps() {
        says.promise(6);
        says.edge("Sets lamps and oil.", () -> {
            DanceHall x = new DanceHall();
            x.setLamps(5, 17);
            values(x, 0, 0, 5, 17, 5, 10, 0, 0, 0, 0, 2, 2, 0, 0);
            x.dance();
            x.setLamps(5, 17);
            check.same("the oil burned stays", 10, x.value(13));
        });
        says.edge(UNDOABLE, () -> {
            saves("lamps and oil", x -> x.setLamps(6, 999));
            saves("as it is", x -> x.setLamps(x.value(2), x.value(3)));
        });
        says.edge("`lamps`: 1 to 6", () -> {
            DanceHall x = new DanceHall();
            for (int lamps = 1; lamps <= 6; lamps++) {
                x.setLamps(lamps, 999);
                check.same("lamps", lamps, x.value(2));
                check.same("lit", lamps, x.value(4));
            }
        });
        says.edge("`oil`: 0 to 999", () -> {
            DanceHall x = new DanceHall();
            for (int oil : new int[] {0, 1, 2, 998, 999}) {
                x.setLamps(1, oil);
                check.same("oil", oil, x.value(3));
            }
        });
        says.edge("Returns the previous oil.", () -> {
            DanceHall x = new DanceHall();
            check.same("at first", 60, x.setLamps(6, 999));
            check.same("the most", 999, x.setLamps(2, 0));
            check.same("the least", 0, x.setLamps(2, 9));
            x.dance();
            check.same("behind a dance", 5, x.setLamps(2, 5));
        });
        says.edge("Throws `IllegalArgumentException` if lamps or oil is out of range", () -> {
            for (int lamps : new int[] {0, 7, -1, FAR, DEEP}) {
                refused(HallCheck::savedFull, ARGUMENT, "lamps " + lamps, x -> x.setLamps(lamps, 7));
            }
            for (int oil : new int[] {-1, 1000, FAR, DEEP}) {
                refused(HallCheck::savedFull, ARGUMENT, "oil " + oil, x -> x.setLamps(1, oil));
            }
            refused(HallCheck::savedFull, ARGUMENT, "both", x -> x.setLamps(0, 1000));
        });
    }

    // ---- promise 7

    private static void setFiddlers() {
        says.promise(7);
        says.edge("Sets the fiddlers: so many, each with the part 1.", () -> {
            DanceHall x = new DanceHall();
            x.setPart(0, 9);
            x.setPart(1, 8);
            x.setFiddlers(4);
            fiddlers(x, 0, 1, 1, 1, 1);
            x.setPart(3, 7);
            x.setPart(0, 7);
            x.setFiddlers(4);
            fiddlers(x, 0, 1, 1, 1, 1);
            x.setPart(2, 5);
            x.setFiddlers(1);
            fiddlers(x, 0, 1);
            check.same("sum of the parts", 1, x.value(11));
            x.setFiddlers(3);
            fiddlers(x, 0, 1, 1, 1);
            check.same("sum of the parts", 3, x.value(11));
        });
        says.edge("(What they have got so far stays, also of those who are not there any more.)", () -> {
            DanceHall x = hallOf(8, 8, 9);
            x.setLamps(6, 999);
            x.setFiddlers(4);
            x.setPart(1, 2);
            x.dance();
            x.endNight();
            fiddlers(x, 1, 4, 6, 3, 3);
            x.setFiddlers(1);
            fiddlers(x, 1, 4);
            x.dance();
            x.endNight();
            fiddlers(x, 1, 20);
            x.setFiddlers(4);
            fiddlers(x, 1, 20, 6, 3, 3);
            x.setFiddlers(2);
            x.setFiddlers(3);
            fiddlers(x, 1, 20, 6, 3);
        });
        says.edge(UNDOABLE, () -> {
            saves("four", x -> x.setFiddlers(4));
            saves("one", x -> x.setFiddlers(1));
            saves("as many as there are", x -> x.setFiddlers(2));
            undoable(HallEdgesTest::hallWithParts, "parts that are lost", x -> x.setFiddlers(1));
        });
        says.edge("`fiddlers`: 1 to 4", () -> {
            DanceHall x = new DanceHall();
            for (int fiddlers = 1; fiddlers <= 4; fiddlers++) {
                x.setFiddlers(fiddlers);
                check.same("fiddlers", fiddlers, x.value(10));
                check.same("the last one's part", 1, x.fiddler(fiddlers - 1, 0));
            }
        });
        says.edge("Returns the previous number.", () -> {
            DanceHall x = new DanceHall();
            check.same("at first", 2, x.setFiddlers(4));
            check.same("four", 4, x.setFiddlers(1));
            check.same("one", 1, x.setFiddlers(1));
            check.same("one", 1, x.setFiddlers(3));
        });
        says.edge("Throws `IllegalArgumentException` if fiddlers is out of range", () -> {
            for (int fiddlers : new int[] {0, 5, -1, FAR, DEEP}) {
                refused(HallCheck::savedFull, ARGUMENT, "fiddlers " + fiddlers, x -> x.setFiddlers(fiddlers));
                refused(HallEdgesTest::hallWithParts, ARGUMENT, "fiddlers " + fiddlers, x -> x.setFiddlers(fiddlers));
            }
        });
    }

    /** Three fiddlers with parts of their own, who have got some and would get more. */
    private static DanceHall hallWithParts() {
        DanceHall x = hallOf(3, 3, 9);
        x.setFiddlers(3);
        x.setPart(0, 2);
        x.setPart(1, 3);
        x.setPart(2, 9);
        x.dance();
        x.endNight();
        x.dance();
        return dropSaved(x);
    }

    // ---- promise 8

    private static void setPart() {
        says.promise(8);
        says.edge("Sets the part of a fiddler.", () -> {
            DanceHall x = new DanceHall();
            x.setFiddlers(3);
            x.setPart(1, 6);
            fiddlers(x, 0, 1, 6, 1);
            check.same("sum of the parts", 8, x.value(11));
        });
        says.edge(UNDOABLE, () -> {
            saves("a part", x -> x.setPart(1, 9));
            saves("the part that it has", x -> x.setPart(0, 1));
            undoable(HallEdgesTest::hallWithParts, "another part", x -> x.setPart(2, 1));
        });
        says.edge("`fiddler`: number of a fiddler", () -> {
            DanceHall x = new DanceHall();
            x.setFiddlers(4);
            x.setPart(0, 9);
            x.setPart(3, 8);
            fiddlers(x, 0, 9, 1, 1, 8);
        });
        says.edge("`part`: 1 to 9", () -> {
            DanceHall x = new DanceHall();
            for (int part = 1; part <= 9; part++) {
                x.setPart(0, part);
                check.same("part", part, x.fiddler(0, 0));
                check.same("sum of the parts", part + 1, x.value(11));
            }
        });
        says.edge("Returns the previous part.", () -> {
            DanceHall x = new DanceHall();
            check.same("at first", 1, x.setPart(1, 9));
            check.same("nine", 9, x.setPart(1, 9));
            check.same("nine", 9, x.setPart(1, 1));
            check.same("the other's", 1, x.setPart(0, 4));
            x.setFiddlers(2);
            check.same("behind setFiddlers", 1, x.setPart(0, 3));
        });
        says.edge(NO_FIDDLER, () -> {
            for (int fiddler : new int[] {2, 3, 4, -1, FAR, DEEP}) {
                refused(HallCheck::savedFull, INDEX, "fiddler " + fiddler, x -> x.setPart(fiddler, 1));
                refused(HallCheck::savedFull, INDEX, "wrong part of " + fiddler, x -> x.setPart(fiddler, 0));
            }
            refused(HallEdgesTest::hallWithParts, INDEX, "fiddler 3 of three", x -> x.setPart(3, 1));
            DanceHall y = hallWithParts();
            y.setFiddlers(4);
            y.setFiddlers(1);
            fails(y, INDEX, "one who is not there any more", () -> y.setPart(1, 1));
            y.setFiddlers(4);
            fails(y, INDEX, "a fifth one", () -> y.setPart(4, 1));
        });
        says.edge("Throws `IllegalArgumentException` if part is out of range", () -> {
            for (int part : new int[] {0, 10, -1, FAR, DEEP}) {
                refused(HallCheck::savedFull, ARGUMENT, "part " + part, x -> x.setPart(1, part));
                refused(HallEdgesTest::hallWithParts, ARGUMENT, "part " + part, x -> x.setPart(0, part));
            }
        });
    }

    // ---- promise 9

    private static void dance() {
        says.promise(9);
        says.edge("Lets a dance be danced.", () -> {
            DanceHall x = hallOf(2, 3, 9);
            x.dance();
            partners(x, 0, 0, 1);
            values(x, 2, 3, 3, 54, 3, 6, 0, 1, 2, 4, 2, 2, 2, 6);
            factOfAll(x, true, 6, 1, 1);
            factOfAll(x, false, 7, 1, 1, 0);
            x.dance();
            partners(x, 1, 1, 0);
            x.dance();
            partners(x, 2, 2, NONE);
            partners(x, 0, 0, 1);
            x.dance();
            partners(x, 3, NONE, 2);
            values(x, 2, 3, 3, 36, 3, 6, 0, 4, 6, 12, 2, 2, 6, 24);
        });
        says.edge(UNDOABLE, () -> {
            saves("a dance", DanceHall::dance);
            undoable(() -> dropSaved(hallOf(8, 8, 1)), "a dance of the last tokens", DanceHall::dance);
            undoable(() -> dropSaved(new DanceHall()), "a dance of nobody", DanceHall::dance);
        });
        says.edge("Returns the number of couples.", () -> {
            for (int leaders = 0; leaders <= 8; leaders++) {
                for (int followers = 0; followers <= 8; followers++) {
                    DanceHall x = hallOf(leaders, followers, 9);
                    x.setLamps(6, 12);
                    check.same("couples", Math.min(leaders, followers), x.dance());
                    x.setLamps(6, 3);
                    int most = leaders == 1 && followers == 1 ? 0 : Math.min(leaders, followers);
                    check.same("couples in a small room", Math.min(2, most), x.dance());
                }
            }
        });
        says.edge("Throws `IllegalStateException` if no lamp can be lit, or 30 dances have been danced this night",
                () -> {
            DanceHall x = hallOf(2, 2, 99);
            x.setLamps(1, 999);
            for (int dance = 0; dance < 29; dance++) {
                x.dance();
            }
            check.same("the thirtieth", 0, x.dance());
            fails(x, STATE, "the thirty-first", x::dance);
            refused(HallCheck::hallBehind30Dances, STATE, "the thirty-first, with couples", DanceHall::dance);
            x.setLamps(1, 1);
            fails(x, STATE, "both", x::dance);
            x.setLamps(1, 999);
            x.endNight();
            check.same("in the next night", 2, x.dance());
            refused(() -> hallWithOil(0), STATE, "oil 0", DanceHall::dance);
            refused(() -> hallWithOil(1), STATE, "oil 1", DanceHall::dance);
            check.same("oil 2", 2, hallWithOil(2).dance());
            DanceHall y = hallBehind30Dances();
            y.undo();
            y.undo();
            check.same("dances that were undone do not count", 2, y.dance());
        });
    }

    private static DanceHall hallWithOil(int oil) {
        DanceHall x = hallOf(4, 4, 9);
        x.setLamps(6, oil);
        return x;
    }

    // ---- promise 10

    private static void danceOn() {
        says.promise(10);
        says.edge("Lets dances be danced, one after the other, until there are no couples in one (which is danced, "
                + "too), no lamp can be lit, or 30 dances have been danced this night (also if that is so at once).",
                () -> {
            DanceHall x = hallOf(3, 3, 99);
            x.danceOn();
            values(x, 3, 3, 3, 36, 3, 6, 0, 4, 9, 18, 2, 2, 9, 24);
            partners(x, 3, NONE, NONE, NONE);
            DanceHall y = hallWithOil(13);
            y.danceOn();
            values(y, 4, 4, 6, 1, 0, 0, 0, 1, 4, 8, 2, 2, 4, 12);
            y.setLamps(1, 5);
            y.danceOn();
            check.same("until the oil ends", 3, y.value(7));
            check.same("couples", 8, y.value(8));
            DanceHall z = hallOf(8, 8, 99);
            z.setLamps(1, 999);
            z.danceOn();
            check.same("30 dances", 30, z.value(7));
            check.same("two couples each", 60, z.value(8));
            z.danceOn();
            check.same("at once", 30, z.value(7));
            check.same("no more oil burns", 939, z.value(3));
        });
        says.edge("Undoable (one saved state).", () -> {
            saves("many dances", DanceHall::danceOn);
            saves("one dance", x -> {
                x.setHere(true, 0, true);
                x.undo();
                x.danceOn();
            });
            undoable(() -> dropSaved(hallWithOil(1)), "no dance, without oil", DanceHall::danceOn);
            undoable(() -> dropSaved(hallBehind30Dances()), "no dance, behind 30", DanceHall::danceOn);
            undoable(() -> dropSaved(hallOf(8, 8, 99)), "ten dances", DanceHall::danceOn);
        });
        says.edge("Returns the number of dances (0 if none is possible).", () -> {
            check.same("an empty one", 1, new DanceHall().danceOn());
            check.same("one and an empty one", 2, hallOf(1, 1, 9).danceOn());
            check.same("the tokens end", 3, hallOf(4, 4, 2).danceOn());
            check.same("the oil ends", 10, hallOf(8, 8, 99).danceOn());
            check.same("oil for one", 1, hallWithOil(2).danceOn());
            check.same("oil 3", 1, hallWithOil(3).danceOn());
            check.same("oil 1", 0, hallWithOil(1).danceOn());
            check.same("oil 0", 0, hallWithOil(0).danceOn());
            check.same("behind 30", 0, hallBehind30Dances().danceOn());
            DanceHall x = hallOf(8, 8, 99);
            x.setLamps(1, 999);
            x.dance();
            check.same("29 are left", 29, x.danceOn());
            x.endNight();
            check.same("30 in the next night", 30, x.danceOn());
        });
    }

    // ---- promise 11

    private static void endNight() {
        says.promise(11);
        says.edge("Ends the night.", () -> {
            DanceHall x = hallBehind30Dances();
            x.setHere(true, 0, false);
            x.setHere(false, 7, false);
            x.endNight();
            values(x, 8, 8, 6, 999, 6, 12, 1, 0, 0, 0, 2, 2, 60, 60);
            factOfAll(x, true, 3, 1, 1, 1, 1, 1, 1, 1, 1);
            factOfAll(x, false, 3, 1, 1, 1, 1, 1, 1, 1, 1);
            factOfAll(x, true, 6, 0, 0, 0, 0, 0, 0, 0, 0);
            fiddlers(x, 1, 60, 60);
            fails(x, INDEX, "a dance of last night", () -> x.partner(0, 0));
            check.same("all dance again", 8, x.dance());
            partners(x, 0, 0, 1, 2, 3, 4, 5, 6, 7);
        });
        says.edge(UNDOABLE, () -> {
            saves("a night", DanceHall::endNight);
            undoable(DanceHall::new, "a night of nobody", DanceHall::endNight);
            undoable(() -> dropSaved(hallBehind30Dances()), "a long night", DanceHall::endNight);
            undoable(HallEdgesTest::hallWithParts, "a shared night", DanceHall::endNight);
            undoable(HallEdgesTest::hallWithoutGuest0, "a night without one", DanceHall::endNight);
        });
        says.edge("Returns the tokens that are shared.", () -> {
            check.same("an empty bag", 0, new DanceHall().endNight());
            DanceHall x = hallOf(3, 2, 9);
            check.same("no dance", 0, x.endNight());
            x.dance();
            check.same("two couples", 4, x.endNight());
            check.same("shared already", 0, x.endNight());
            x.danceOn();
            check.same("all couples", 12, x.endNight());
            check.same("the most", 120, hallBehind30Dances().endNight());
            DanceHall y = hallOf(1, 1, 9);
            y.dance();
            y.setFiddlers(4);
            check.same("what is left over is shared, too", 2, y.endNight());
        });
    }

    // ---- promise 12

    private static void guest() {
        says.promise(12);
        says.edge("Returns something about a guest.", () -> {
            for (int what = 0; what <= 7; what++) {
                int fact = what;
                quiet(HallCheck::savedFull, "fact " + what, x -> x.guest(true, 0, fact));
            }
        });
        says.edge(LEADS, () -> {
            DanceHall x = hallOf("l1,2-;f3,4;");
            facts(x, true, 0, 1, 2, 0, 1, 1, 2, 0, 0);
            facts(x, false, 0, 3, 4, 1, 1, 1, 0, 0, 0);
        });
        says.edge(GUEST, () -> {
            DanceHall x = hallOf("l1,1;l2,1;l3,1;l4,1;l5,1;l6,1;l7,1;l8,1;f9,1;f8,1;f7,1;f6,1;f5,1;f4,1;f3,1;f2,1;");
            factOfAll(x, true, 0, 1, 2, 3, 4, 5, 6, 7, 8);
            factOfAll(x, false, 0, 9, 8, 7, 6, 5, 4, 3, 2);
        });
        says.edge("`what`: 0 its tokens, 1 its shoe size, 2 1 if it has shoes of its own, otherwise 0, 3 1 if it is "
                + "here, otherwise 0, 4 1 if it is one of those who can dance now, otherwise 0 (lamps and whom it has "
                + "danced with do not matter), 5 the size of the shoes that it would be lent now (0 if it would be lent "
                + "none), 6 the dances that it has danced this night, 7 all its dances so far",
                HallEdgesTest::guestFacts);
        says.edge("Returns that value.", () -> {
            DanceHall x = hallOf("l99,9-;f0,1;");
            facts(x, true, 0, 99, 9, 0, 1, 1, 9, 0, 0);
            facts(x, false, 0, 0, 1, 1, 1, 0, 0, 0, 0);
            check.same("the same again", 99, x.guest(true, 0, 0));
        });
        says.edge(NO_GUEST, () -> {
            needsGuest((x, leads, guest) -> x.guest(leads, guest, 0));
            needsGuest((x, leads, guest) -> x.guest(leads, guest, 7));
            needsGuest((x, leads, guest) -> x.guest(leads, guest, 8));
        });
        says.edge(NO_FACT, () -> {
            for (int what : OUT_OF_FACTS) {
                refused(HallCheck::savedFull, ARGUMENT, "what " + what, x -> x.guest(true, 0, what));
                refused(HallCheck::savedFull, ARGUMENT, "what " + what, x -> x.guest(false, 2, what));
            }
            refused(HallCheck::savedFull, ARGUMENT, "what 8", x -> x.guest(true, 0, 8));
        });
    }

    private static void guestFacts() {
        DanceHall x = hallOf("l2,3-;l9,4;l1,4-;f9,3-;f9,4-;f9,9-;f9,9-;");
        x.setShoes(5, 0);
        factOfAll(x, true, 4, 1, 1, 1);
        factOfAll(x, true, 5, 3, 0, 4);
        factOfAll(x, false, 4, 0, 0, 1, 0);
        factOfAll(x, false, 5, 0, 0, 9, 0);
        x.setShoes(5, 2);
        factOfAll(x, false, 4, 0, 1, 1, 0);
        factOfAll(x, false, 5, 0, 5, 9, 0);
        check.same("followers 1 and 2 dance", 2, x.dance());
        factOfAll(x, true, 0, 1, 8, 1);
        factOfAll(x, true, 6, 1, 1, 0);
        factOfAll(x, false, 6, 0, 1, 1, 0);
        x.setLamps(1, 0);
        factOfAll(x, true, 4, 1, 1, 1);
        factOfAll(x, true, 5, 3, 0, 4);
        x.setLamps(3, 60);
        check.same("the other way", 2, x.dance());
        factOfAll(x, true, 0, 0, 7, 1);
        factOfAll(x, true, 4, 0, 1, 1);
        factOfAll(x, true, 5, 0, 0, 4);
        factOfAll(x, false, 5, 3, 5, 9, 0);
        check.same("tokens are left to two", 2, x.dance());
        check.same("the last ones with leader 2", 0, x.guest(true, 2, 0));
        x.endNight();
        factOfAll(x, true, 6, 0, 0, 0);
        factOfAll(x, true, 7, 2, 3, 1);
        x.giveTokens(true, 0, 1);
        x.dance();
        factOfAll(x, true, 6, 1, 1, 0);
        factOfAll(x, true, 7, 3, 4, 1);
        danceWithAllMatters();
        x.setHere(true, 1, false);
        check.same("gone: here", 0, x.guest(true, 1, 3));
        check.same("gone: can dance", 0, x.guest(true, 1, 4));
        check.same("gone: all dances", 4, x.guest(true, 1, 7));
    }

    /** Whom it has danced with, and 30 dances, do not matter for those who can dance. */
    private static void danceWithAllMatters() {
        DanceHall x = hallOf("l9,2-;f9,2-;");
        x.danceOn();
        facts(x, true, 0, 8, 2, 0, 1, 1, 2, 1, 1);
        facts(x, false, 0, 8, 2, 0, 1, 1, 3, 1, 1);
        DanceHall y = hallBehind30Dances();
        check.same("behind 30 dances", 1, y.guest(true, 0, 4));
        int tonight = 0;
        for (int leader = 0; leader < 8; leader++) {
            tonight += y.guest(true, leader, 6);
            check.same("all of them tonight", y.guest(true, leader, 6), y.guest(true, leader, 7));
        }
        check.same("the dances of all leaders", 60, tonight);
    }

    // ---- promise 13

    private static void value() {
        says.promise(13);
        says.edge("Returns a number.", () -> {
            for (int what = 0; what <= 13; what++) {
                int fact = what;
                quiet(HallCheck::savedFull, "value " + what, x -> x.value(fact));
            }
        });
        says.edge("`what`: 0 the leaders, 1 the followers, 2 the lamps, 3 the oil, 4 the lamps that would be lit now, 5 "
                + "the couples for which there would be room now, 6 the night, 7 the dances of this night, 8 the couples "
                + "of this night, each dance counted, 9 the bag, 10 the fiddlers, 11 the sum of their parts, 12 all "
                + "couples so far, 13 the oil burned so far", HallEdgesTest::valueFacts);
        says.edge("Returns that number.", () -> {
            values(new DanceHall(), 0, 0, 3, 60, 3, 6, 0, 0, 0, 0, 2, 2, 0, 0);
            values(hallOf(8, 8, 0), 8, 8, 3, 60, 3, 6, 0, 0, 0, 0, 2, 2, 0, 0);
            values(hallBehind30Dances(), 8, 8, 6, 999, 6, 12, 0, 30, 60, 120, 2, 2, 60, 60);
            values(busyHall(), 3, 3, 3, 48, 3, 6, 1, 1, 3, 6, 2, 2, 5, 12);
        });
        says.edge(NO_FACT, () -> {
            for (int what : OUT_OF_FACTS) {
                refused(HallCheck::savedFull, ARGUMENT, "what " + what, x -> x.value(what));
            }
            refused(HallCheck::savedFull, ARGUMENT, "what 14", x -> x.value(14));
        });
    }

    private static void valueFacts() {
        DanceHall x = hallOf(3, 2, 9);
        x.setLamps(6, 11);
        x.setFiddlers(3);
        x.setPart(2, 9);
        values(x, 3, 2, 6, 11, 5, 10, 0, 0, 0, 0, 3, 11, 0, 0);
        x.dance();
        values(x, 3, 2, 6, 1, 0, 0, 0, 1, 2, 4, 3, 11, 2, 10);
        x.setLamps(2, 12);
        x.danceOn();
        values(x, 3, 2, 2, 0, 0, 0, 0, 4, 6, 12, 3, 11, 6, 22);
        x.setHere(true, 0, false);
        check.same("leaders at home count", 3, x.value(0));
        x.endNight();
        values(x, 3, 2, 2, 0, 0, 0, 1, 0, 0, 0, 3, 11, 6, 22);
        x.setLamps(2, 999);
        x.dance();
        values(x, 3, 2, 2, 995, 2, 4, 1, 1, 2, 4, 3, 11, 8, 26);
        DanceHall y = new DanceHall();
        for (int night = 1; night <= 100; night++) {
            y.endNight();
        }
        check.same("the hundredth night", 100, y.value(6));
    }

    // ---- promise 14

    private static void shoes() {
        says.promise(14);
        says.edge("Returns the pairs of shoes of a size.", () -> {
            quiet(HallCheck::savedFull, "shoes", x -> x.shoes(5, false));
            quiet(HallCheck::savedFull, "shoes that are left", x -> x.shoes(5, true));
            DanceHall y = new DanceHall();
            y.setShoes(6, 8);
            check.same("of size 5", 1, y.shoes(5, false));
            check.same("of size 6", 8, y.shoes(6, false));
            check.same("of size 7", 1, y.shoes(7, false));
        });
        says.edge(SIZE, () -> {
            DanceHall x = new DanceHall();
            for (int size = 1; size <= 9; size++) {
                x.setShoes(size, size);
                check.same("all", size, x.shoes(size, false));
                check.same("left", size, x.shoes(size, true));
            }
        });
        says.edge("`left`: false for all pairs, true for those that would be left in a dance now", () -> {
            DanceHall x = hallOf("l1,8-;l1,8-;l0,8-;l1,8;f1,9-;f1,9-;f1,1-;");
            x.setShoes(8, 3);
            x.setShoes(9, 2);
            check.same("all of 8", 3, x.shoes(8, false));
            check.same("left of 8", 1, x.shoes(8, true));
            check.same("all of 9", 2, x.shoes(9, false));
            check.same("left of 9", 0, x.shoes(9, true));
            check.same("left of 1", 0, x.shoes(1, true));
            x.setHere(true, 0, false);
            check.same("who is at home leaves a pair", 2, x.shoes(8, true));
            x.setLamps(1, 0);
            check.same("lamps do not matter", 2, x.shoes(8, true));
            x.setShoes(8, 0);
            check.same("the greater ones go first to the leader", 0, x.shoes(9, true));
            check.same("all of 8", 0, x.shoes(8, false));
            x.setLamps(3, 60);
            x.danceOn();
            check.same("behind the dances all are there", 2, x.shoes(9, false));
            check.same("who has no token leaves a pair", 1, hallOf("l0,7-;").shoes(7, true));
        });
        says.edge("Returns their number.", () -> {
            DanceHall x = hallOf("l1,5-;l1,5-;l1,5-;");
            x.setShoes(5, 9);
            check.same("nine", 9, x.shoes(5, false));
            check.same("six are left", 6, x.shoes(5, true));
            x.setShoes(5, 0);
            check.same("none", 0, x.shoes(5, false));
            check.same("never fewer than none", 0, x.shoes(5, true));
            check.same("of the next size", 0, x.shoes(6, true));
        });
        says.edge(NO_SIZE, () -> {
            for (int size : new int[] {0, 10, -1, FAR, DEEP}) {
                refused(HallCheck::savedFull, INDEX, "size " + size, x -> x.shoes(size, false));
                refused(HallCheck::savedFull, INDEX, "size " + size, x -> x.shoes(size, true));
            }
        });
    }

    // ---- promise 15

    private static void fiddler() {
        says.promise(15);
        says.edge("Returns something about a fiddler.", () -> {
            for (int what = 0; what <= 2; what++) {
                int fact = what;
                quiet(HallEdgesTest::hallWithParts, "fact " + what, x -> x.fiddler(2, fact));
            }
        });
        says.edge("`fiddler`: number of a fiddler", () -> {
            DanceHall x = new DanceHall();
            x.setFiddlers(4);
            for (int fiddler = 0; fiddler < 4; fiddler++) {
                x.setPart(fiddler, 9 - fiddler);
            }
            fiddlers(x, 0, 9, 8, 7, 6);
        });
        says.edge("`what`: 0 its part, 1 the tokens that it has got so far, 2 what it would get if the night ended now",
                () -> {
            DanceHall x = hallWithParts();
            fiddlers(x, 0, 2, 3, 9);
            fiddlers(x, 1, 2, 1, 3);
            fiddlers(x, 2, 2, 1, 3);
            x.dance();
            fiddlers(x, 2, 3, 2, 7);
            x.setFiddlers(1);
            fiddlers(x, 2, 12);
            x.setFiddlers(4);
            fiddlers(x, 1, 2, 1, 3, 0);
            fiddlers(x, 2, 3, 3, 3, 3);
            x.endNight();
            fiddlers(x, 1, 5, 4, 6, 3);
            fiddlers(x, 2, 0, 0, 0, 0);
        });
        says.edge("Returns that value.", () -> {
            DanceHall x = hallBehind30Dances();
            x.setPart(0, 9);
            fiddlers(x, 0, 9, 1);
            fiddlers(x, 1, 0, 0);
            fiddlers(x, 2, 108, 12);
        });
        says.edge(NO_FIDDLER, () -> {
            for (int fiddler : new int[] {2, 3, 4, -1, FAR, DEEP}) {
                refused(HallCheck::savedFull, INDEX, "fiddler " + fiddler, x -> x.fiddler(fiddler, 0));
                refused(HallCheck::savedFull, INDEX, "what 3 of " + fiddler, x -> x.fiddler(fiddler, 3));
            }
            DanceHall x = hallWithParts();
            fails(x, INDEX, "fiddler 3 of three", () -> x.fiddler(3, 1));
            x.setFiddlers(1);
            fails(x, INDEX, "one who is not there any more", () -> x.fiddler(1, 1));
            x.setFiddlers(4);
            fails(x, INDEX, "a fifth one", () -> x.fiddler(4, 1));
        });
        says.edge(NO_FACT, () -> {
            for (int what : OUT_OF_FACTS) {
                refused(HallCheck::savedFull, ARGUMENT, "what " + what, x -> x.fiddler(0, what));
            }
            refused(HallCheck::savedFull, ARGUMENT, "what 3", x -> x.fiddler(1, 3));
        });
    }

    // ---- promise 16

    private static void danced() {
        says.promise(16);
        says.edge("Returns the dance of this night in which two guests danced with each other.", () -> {
            quiet(HallCheck::savedFull, "danced", x -> x.danced(0, 0));
            DanceHall y = hallOf(2, 3, 9);
            danceOfTwo(y, 1, 2);
            danceOfTwo(y, 0, 2);
            check.same("danced(1, 2)", 0, y.danced(1, 2));
            check.same("danced(0, 2)", 1, y.danced(0, 2));
            y.endNight();
            danceOfTwo(y, 0, 2);
            check.same("of this night", 0, y.danced(0, 2));
            check.same("not of last night", NONE, y.danced(1, 2));
        });
        says.edge("`leader`: number of a leader", () -> {
            DanceHall x = hallOf(8, 8, 9);
            danceOfTwo(x, 7, 3);
            danceOfTwo(x, 0, 3);
            for (int leader = 0; leader < 8; leader++) {
                int due = leader == 7 ? 0 : leader == 0 ? 1 : NONE;
                check.same("leader " + leader, due, x.danced(leader, 3));
            }
        });
        says.edge("`follower`: number of a follower", () -> {
            DanceHall x = hallOf(8, 8, 9);
            danceOfTwo(x, 3, 7);
            danceOfTwo(x, 3, 0);
            for (int follower = 0; follower < 8; follower++) {
                int due = follower == 7 ? 0 : follower == 0 ? 1 : NONE;
                check.same("follower " + follower, due, x.danced(3, follower));
            }
        });
        says.edge("Returns the number of the dance, from 0; NONE if they have not danced with each other this night.",
                () -> {
            DanceHall x = new DanceHall();
            x.setLamps(1, 999);
            for (int dance = 0; dance < 29; dance++) {
                x.dance();
            }
            x.addGuest(true, 5, 5, true);
            x.addGuest(false, 5, 5, true);
            check.same("not yet", NONE, x.danced(0, 0));
            x.dance();
            check.same("the last one of a night", 29, x.danced(0, 0));
            x.undo();
            check.same("undone", NONE, x.danced(0, 0));
            x.dance();
            x.setHere(true, 0, false);
            check.same("who is at home has danced", 29, x.danced(0, 0));
            x.endNight();
            check.same("the next night", NONE, x.danced(0, 0));
            x.dance();
            check.same("the first one of a night", 0, x.danced(0, 0));
        });
        says.edge("Throws `IndexOutOfBoundsException` if there is no such leader or follower", () -> {
            needsGuest((x, leads, guest) -> x.danced(leads ? guest : 0, leads ? 0 : guest));
            needsGuest((x, leads, guest) -> x.danced(guest, guest));
            refused(() -> hallOf(2, 0, 5), INDEX, "no follower", x -> x.danced(0, 0));
            refused(() -> hallOf(0, 2, 5), INDEX, "no leader", x -> x.danced(0, 0));
            refused(() -> hallOf(2, 5, 5), INDEX, "leader and follower changed round", x -> x.danced(4, 1));
        });
    }

    // ---- promise 17

    private static void partner() {
        says.promise(17);
        says.edge("Returns the follower of a leader in a dance of this night.", () -> {
            quiet(HallCheck::savedFull, "partner", x -> x.partner(0, 0));
            DanceHall y = hallOf(2, 2, 9);
            y.dance();
            y.dance();
            y.dance();
            partners(y, 0, 0, 1);
            partners(y, 1, 1, 0);
            partners(y, 2, NONE, NONE);
            y.endNight();
            danceOfTwo(y, 1, 0);
            partners(y, 0, NONE, 0);
        });
        says.edge("`dance`: number of a dance of this night", () -> {
            DanceHall x = hallBehind30Dances();
            for (int dance = 0; dance < 30; dance++) {
                int couples = 0;
                for (int leader = 0; leader < 8; leader++) {
                    int follower = x.partner(dance, leader);
                    if (follower != NONE) {
                        couples++;
                        check.same("the same dance", dance, x.danced(leader, follower));
                    }
                }
                check.same("couples of dance " + dance, 2, couples);
            }
        });
        says.edge("`leader`: number of a leader", () -> {
            DanceHall x = hallOf(8, 8, 9);
            x.setLamps(6, 999);
            x.dance();
            partners(x, 0, 0, 1, 2, 3, 4, 5, 6, 7);
        });
        says.edge("Returns the follower; NONE if the leader did not dance in it.", () -> {
            DanceHall x = hallOf(3, 1, 9);
            x.dance();
            x.dance();
            partners(x, 0, 0, NONE, NONE);
            partners(x, 1, NONE, 0, NONE);
            x.addGuest(true, 5, 5, true);
            check.same("who came later", NONE, x.partner(0, 3));
            x.setHere(true, 0, false);
            check.same("who went home", 0, x.partner(0, 0));
        });
        says.edge("Throws `IndexOutOfBoundsException` if there was no such dance this night, or there is no such "
                + "leader", () -> {
            refused(() -> hallOf(2, 2, 5), INDEX, "before the first dance", x -> x.partner(0, 0));
            refused(() -> hallOf(2, 2, 5), INDEX, "NONE is no dance", x -> x.partner(-1, 0));
            for (int dance : new int[] {-1, 1, 29, 30, FAR, DEEP}) {
                refused(HallCheck::busyHall, INDEX, "dance " + dance, x -> x.partner(dance, 0));
            }
            refused(HallCheck::hallBehind30Dances, INDEX, "dance 30", x -> x.partner(30, 0));
            for (int leader : new int[] {-1, 3, 8, FAR, DEEP}) {
                refused(HallCheck::busyHall, INDEX, "leader " + leader, x -> x.partner(0, leader));
            }
            refused(HallCheck::hallBehind30Dances, INDEX, "leader 8", x -> x.partner(0, 8));
            refused(HallEdgesTest::hallBehindAnEmptyDance, INDEX, "no leader at all", x -> x.partner(0, 0));
            DanceHall y = busyHall();
            y.undo();
            fails(y, INDEX, "a dance that was undone", () -> y.partner(0, 0));
            y.dance();
            y.endNight();
            fails(y, INDEX, "a dance of last night", () -> y.partner(0, 0));
        });
    }

    private static DanceHall hallBehindAnEmptyDance() {
        DanceHall x = new DanceHall();
        x.dance();
        return x;
    }
}
