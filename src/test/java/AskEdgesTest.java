import java.math.BigInteger;

/** Promises 18 to 27, sentence by sentence: each has a test of its own, at the edges that it names. */
final class AskEdgesTest extends HallCheck {
    private static final Sentences says = new Sentences(check);

    public static void main(String[] args) {
        next();
        couplesWith();
        dancesLeft();
        bestSize();
        share();
        append();
        clearText();
        parse();
        undo();
        digest();
        says.compareWithDocument();
        check.end();
    }

    // ---- helpers

    private static DanceHall lit(DanceHall x, int lamps, int oil) {
        x.setLamps(lamps, oil);
        return x;
    }

    private static DanceHall danced(DanceHall x, int dances) {
        for (int i = 0; i < dances; i++) {
            x.dance();
        }
        return x;
    }

    // ---- promise 18

    private static void next() {
        says.promise(18);
        says.edge("Tells with whom a leader would dance in the next dance.", () -> {
            quiet(HallCheck::savedFull, "next", x -> x.next(0));
            DanceHall y = lit(hallOf("l9,9-;l9,9-;l9,5;f9,5;f9,5;f9,5;"), 2, 999);
            for (int dance = 0; dance < 5; dance++) {
                int[] would = {y.next(0), y.next(1), y.next(2)};
                y.dance();
                partners(y, dance, would);
            }
            check.same("all that could have danced", 6, y.value(8));
        });
        says.edge("`leader`: number of a leader", () -> {
            DanceHall x = lit(hallOf(8, 8, 9), 6, 999);
            nexts(x, 0, 1, 2, 3, 4, 5, 6, 7);
            x.setHere(false, 0, false);
            nexts(x, 1, 2, 3, 4, 5, 6, 7, NONE);
            x.setHere(true, 0, false);
            nexts(x, NONE, 1, 2, 3, 4, 5, 6, 7);
        });
        says.edge("Returns the follower; NONE if with nobody (or no lamp can be lit); 30 dances that have been danced "
                + "do not matter.", () -> {
            DanceHall x = hallOf(3, 2, 9);
            nexts(x, 0, 1, NONE);
            lit(x, 1, 1);
            nexts(x, NONE, NONE, NONE);
            lit(x, 1, 0);
            nexts(x, NONE, NONE, NONE);
            lit(x, 1, 2);
            nexts(x, 0, 1, NONE);
            check.same("no follower", NONE, hallOf(1, 0, 9).next(0));
            check.same("no token", NONE, hallOf("l0,5;f9,5;").next(0));
            check.same("danced already", NONE, danced(hallOf(1, 1, 9), 1).next(0));
            DanceHall y = danced(lit(new DanceHall(), 1, 999), 30);
            y.addGuest(true, 5, 5, true);
            y.addGuest(false, 5, 5, true);
            nexts(y, 0);
            fails(y, STATE, "though there is no next dance", y::dance);
            DanceHall z = hallBehind30Dances();
            int couples = 0;
            for (int leader = 0; leader < 8; leader++) {
                int follower = z.next(leader);
                couples += follower == NONE ? 0 : 1;
                check.same("they have not danced", NONE, follower == NONE ? NONE : z.danced(leader, follower));
            }
            check.same("as many as couplesWith", z.couplesWith(6), couples);
            check.holds("some of the last four", couples > 0);
        });
        says.edge("Throws `IndexOutOfBoundsException` if there is no such leader", () -> {
            for (int leader : new int[] {-1, 3, 8, FAR, DEEP}) {
                refused(HallCheck::savedFull, INDEX, "leader " + leader, x -> x.next(leader));
            }
            refused(() -> hallOf(0, 8, 9), INDEX, "no leader at all", x -> x.next(0));
            refused(() -> hallOf(8, 8, 9), INDEX, "leader 8", x -> x.next(8));
            refused(() -> lit(hallOf(1, 2, 9), 1, 0), INDEX, "leader 1 without a lamp", x -> x.next(1));
        });
    }

    // ---- promise 19

    private static void couplesWith() {
        says.promise(19);
        says.edge("Tells how many couples the next dance would have with another number of lamps, with the oil as it "
                + "is.", () -> {
            for (int lamps = 1; lamps <= 6; lamps++) {
                int other = lamps;
                quiet(HallCheck::savedFull, "couplesWith", x -> x.couplesWith(other));
            }
            for (int oil : new int[] {0, 1, 2, 3, 4, 5, 6, 7, 8, 999}) {
                for (int lamps = 1; lamps <= 6; lamps++) {
                    DanceHall x = lit(hallOf(8, 7, 9), 7 - lamps, oil);
                    int would = x.couplesWith(lamps);
                    check.same("couples", Math.min(7, 2 * Math.min(lamps, oil / 2)), would);
                    lit(x, lamps, oil);
                    check.same("couples of the dance", would, oil < 2 ? 0 : x.dance());
                }
            }
        });
        says.edge("`lamps`: 1 to 6", () -> {
            DanceHall x = lit(hallOf(8, 8, 9), 3, 999);
            int[] couples = {2, 4, 6, 8, 8, 8};
            for (int lamps = 1; lamps <= 6; lamps++) {
                check.same("couplesWith(" + lamps + ")", couples[lamps - 1], x.couplesWith(lamps));
            }
            check.same("the lamps stay", 3, x.value(2));
            check.same("the oil stays", 999, x.value(3));
        });
        says.edge("Returns the number of couples.", () -> {
            check.same("nobody", 0, new DanceHall().couplesWith(1));
            check.same("no follower", 0, hallOf(8, 0, 9).couplesWith(6));
            check.same("no oil", 0, lit(hallOf(8, 8, 9), 6, 1).couplesWith(6));
            check.same("one couple", 1, hallOf(1, 8, 9).couplesWith(1));
            check.same("the couple has danced", 0, danced(hallOf(1, 1, 9), 1).couplesWith(6));
            DanceHall x = danced(lit(new DanceHall(), 1, 999), 30);
            x.addGuest(true, 5, 5, true);
            x.addGuest(false, 5, 5, true);
            check.same("30 dances that have been danced do not matter here either", 1, x.couplesWith(1));
        });
        says.edge("Throws `IllegalArgumentException` if lamps is out of range", () -> {
            for (int lamps : new int[] {0, 7, -1, FAR, DEEP}) {
                refused(HallCheck::savedFull, ARGUMENT, "lamps " + lamps, x -> x.couplesWith(lamps));
                refused(DanceHall::new, ARGUMENT, "lamps " + lamps, x -> x.couplesWith(lamps));
            }
        });
    }

    // ---- promise 20

    private static void dancesLeft() {
        says.promise(20);
        says.edge("Tells how many dances danceOn() would be.", () -> {
            quiet(HallCheck::savedFull, "dancesLeft", DanceHall::dancesLeft);
            quiet(() -> dropSaved(hallOf(8, 8, 99)), "dancesLeft", DanceHall::dancesLeft);
            for (int oil = 0; oil < 40; oil++) {
                for (int tokens = 0; tokens < 6; tokens++) {
                    DanceHall x = lit(hallOf(4, 3, tokens), 1 + oil % 3, oil);
                    x.addGuest(true, tokens, 4, false);
                    x.addGuest(false, tokens, 4, false);
                    int left = x.dancesLeft();
                    check.same("oil " + oil + ", tokens " + tokens, left, x.danceOn());
                }
            }
        });
        says.edge("Returns their number.", () -> {
            check.same("an empty one", 1, new DanceHall().dancesLeft());
            check.same("an empty one again", 1, danced(new DanceHall(), 1).dancesLeft());
            check.same("three and an empty one", 4, hallOf(3, 3, 9).dancesLeft());
            check.same("two and an empty one", 3, danced(hallOf(3, 3, 9), 1).dancesLeft());
            check.same("no oil", 0, lit(hallOf(3, 3, 9), 6, 0).dancesLeft());
            check.same("oil 1", 0, lit(hallOf(3, 3, 9), 6, 1).dancesLeft());
            check.same("oil 2", 1, lit(hallOf(3, 3, 9), 6, 2).dancesLeft());
            check.same("at most 30", 30, lit(hallOf(8, 8, 99), 1, 999).dancesLeft());
            check.same("one has been danced", 29, danced(lit(hallOf(8, 8, 99), 1, 999), 1).dancesLeft());
            check.same("29 have been danced", 1, danced(lit(hallOf(8, 8, 99), 1, 999), 29).dancesLeft());
            check.same("30 have been danced", 0, hallBehind30Dances().dancesLeft());
            DanceHall x = hallBehind30Dances();
            x.endNight();
            check.same("eight and an empty one in the next night", 9, x.dancesLeft());
        });
    }

    // ---- promise 21

    private static void bestSize() {
        says.promise(21);
        says.edge("Finds the size of which one more pair of shoes (a tenth one, too) would let the most guests be of "
                + "those who can dance.", () -> {
            quiet(HallCheck::savedFull, "bestSize", DanceHall::bestSize);
            for (int size = 1; size <= 9; size++) {
                DanceHall x = hallOf("l1,7-;".replace('7', (char) ('0' + size)));
                x.setShoes(size, 0);
                x.setShoes(Math.min(9, size + 1), 0);
                check.same("its size", size, x.bestSize());
                x.setHere(true, 0, false);
                check.same("nobody is here", NONE, x.bestSize());
            }
            DanceHall y = hallOf("l1,9-;".repeat(8) + "f1,9-;".repeat(2));
            check.same("the second pair", 9, y.bestSize());
            y.setShoes(9, 9);
            check.same("the tenth pair", 9, y.bestSize());
            y.setShoes(8, 0);
            check.same("smaller ones do not fit", 9, y.bestSize());
            y.setHere(false, 1, false);
            check.same("nine are enough", NONE, y.bestSize());
            DanceHall z = hallOf("l1,4-;l1,5-;f1,6-;f1,9-;");
            z.setShoes(4, 0);
            z.setShoes(6, 0);
            z.setShoes(7, 0);
            check.same("leader 1 finds none, for leader 0 has its pair", 0, z.guest(true, 1, 4));
            check.same("follower 0 finds none either", 0, z.guest(false, 0, 4));
            check.same("a pair of 4 gives leader 1 its own", 4, z.bestSize());
            z.setShoes(4, 1);
            check.same("follower 0 is left", 6, z.bestSize());
        });
        says.edge("Returns the size, of several the smallest one; NONE if no size lets more guests dance than now.",
                () -> {
            check.same("nobody", NONE, new DanceHall().bestSize());
            check.same("all have their own", NONE, hallOf(8, 8, 9).bestSize());
            check.same("all are lent some", NONE, hallOf("l1,4-;l1,4-;f1,9-;").bestSize());
            check.same("nobody has a token", NONE, hallOf("l0,9-;l0,9-;").bestSize());
            check.same("4 as good as 5", 4, hallOf("l1,4-;l1,4-;f1,4-;").bestSize());
            check.same("1 as good as 9", 1, hallOf("l1,9-;l1,9-;f1,1-;f1,1-;f1,1-;").bestSize());
            check.same("8 as good as 9", 8, hallOf("l1,8-;l1,8-;f1,8-;").bestSize());
            DanceHall x = hallOf("l1,9-;l1,9-;");
            check.same("9 alone", 9, x.bestSize());
            lit(x, 1, 0);
            check.same("lamps do not matter", 9, x.bestSize());
            DanceHall y = hallOf("l1,3-;l1,3-;l1,3-;");
            y.setShoes(3, 9);
            check.same("enough of nine", NONE, y.bestSize());
        });
    }

    // ---- promise 22

    private static void share() {
        says.promise(22);
        says.edge("Returns the share of pairs that have danced this night.", () -> {
            quiet(HallCheck::savedFull, "share", DanceHall::share);
            DanceHall y = hallOf(2, 2, 9);
            check.same("none", 0.0, y.share());
            y.dance();
            check.same("two of four", 0.5, y.share());
            y.dance();
            check.same("all", 1.0, y.share());
            y.dance();
            check.same("an empty dance", 1.0, y.share());
            y.endNight();
            check.same("not last night", 0.0, y.share());
        });
        says.edge("Returns the number of pairs of a leader and a follower that have danced with each other this night, "
                + "converted to double, divided by the number of all such pairs, converted to double; 0.0 if there are "
                + "none.", () -> {
            check.same("nobody", 0.0, new DanceHall().share());
            check.same("leaders alone", 0.0, hallOf(8, 0, 9).share());
            check.same("followers alone", 0.0, hallOf(0, 8, 9).share());
            check.same("none of one", 0.0, hallOf(1, 1, 9).share());
            check.same("one of one", 1.0, danced(hallOf(1, 1, 9), 1).share());
            check.same("one of seven", 1.0 / 7.0, danced(hallOf(7, 1, 9), 1).share());
            check.same("three of nine", 3.0 / 9.0, danced(hallOf(3, 3, 9), 1).share());
            check.same("sixty of sixty-four", 60.0 / 64.0, hallBehind30Dances().share());
            DanceHall x = danced(hallOf(1, 1, 9), 1);
            x.addGuest(true, 0, 5, true);
            x.addGuest(false, 0, 5, true);
            check.same("who cannot dance counts, too", 0.25, x.share());
            x.setHere(true, 0, false);
            check.same("and who went home", 0.25, x.share());
            x.parse();
            check.same("no guests any more", 0.0, x.share());
        });
    }

    // ---- promise 23

    private static void append() {
        says.promise(23);
        says.edge("Appends a byte to the text.", () -> {
            DanceHall x = savedFull();
            x.append(';');
            check.same("behind the others", -10 - 11, x.parse());
            check.same("nothing is saved", 4, savedStates(x));
            DanceHall y = new DanceHall();
            y.append('f');
            fails(y, STATE, "nothing is saved", y::undo);
            check.same("one byte", 1, y.clearText());
        });
        says.edge("`value`: the byte, 0 to 127", () -> {
            for (int value = 0; value <= 127; value++) {
                DanceHall x = new DanceHall();
                check.same("length with " + value, 1, x.append(value));
                check.same("byte " + value, value == 'l' || value == 'f' ? -11 : -10, x.parse());
            }
        });
        says.edge("Returns the new length of the text.", () -> {
            DanceHall x = new DanceHall();
            for (int length = 1; length <= 100; length++) {
                check.same("length", length, x.append(length));
            }
            x.clearText();
            check.same("an emptied text", 1, x.append(127));
        });
        says.edge("Throws `IllegalArgumentException` if value is out of range", () -> {
            for (int value : new int[] {-1, 128, 255, 256 + 'l', FAR, DEEP}) {
                refused(HallCheck::savedFull, ARGUMENT, "byte " + value, x -> x.append(value));
                refused(DanceHall::new, ARGUMENT, "byte " + value, x -> x.append(value));
                refused(AskEdgesTest::fullText, ARGUMENT, "byte " + value + " too many", x -> x.append(value));
            }
        });
        says.edge("Throws `IllegalStateException` if the text has 100 bytes", () -> {
            for (int value : new int[] {0, ';', 127}) {
                refused(AskEdgesTest::fullText, STATE, "byte " + value + " too many", x -> x.append(value));
            }
            DanceHall x = fullText();
            x.clearText();
            check.same("room again", 1, x.append('l'));
            DanceHall y = read(new DanceHall(), "l".repeat(99));
            check.same("the hundredth", 100, y.append('l'));
        });
    }

    private static DanceHall fullText() {
        return read(new DanceHall(), "l99,9-;".repeat(4) + "l9,9-;".repeat(4) + "f9,9-;".repeat(8));
    }

    // ---- promise 24

    private static void clearText() {
        says.promise(24);
        says.edge("Empties the text.", () -> {
            DanceHall x = savedFull();
            x.clearText();
            check.same("no guests", 0, x.parse());
            x.undo();
            check.same("nothing else is emptied", 3, x.value(0));
            check.same("nothing is saved", 3, savedStates(x));
            DanceHall y = fullText();
            y.clearText();
            read(y, "l1,1;");
            check.same("no byte of the old text is left", 1, y.parse());
        });
        says.edge("Returns the length that it had.", () -> {
            DanceHall x = new DanceHall();
            check.same("a new hall's", 0, x.clearText());
            x.append('x');
            check.same("one byte", 1, x.clearText());
            check.same("empty already", 0, x.clearText());
            check.same("a full text", 100, fullText().clearText());
        });
    }

    // ---- promise 25

    private static void parse() {
        says.promise(25);
        says.edge("Makes the guests those of the text, all here; no couple has danced this night, and its dances are 0; "
                + "the bag, the night, and all else stay.", () -> {
            DanceHall x = busyHall();
            x.setFiddlers(3);
            x.setPart(2, 9);
            x.setShoes(4, 0);
            x.setShoes(7, 8);
            allHere(x, 9, 9, 9, 9);
            read(x, "l7,3-;f1,1;f2,4-;");
            check.same("parse()", 3, x.parse());
            values(x, 1, 2, 3, 48, 3, 6, 1, 0, 0, 6, 3, 11, 5, 12);
            facts(x, true, 0, 7, 3, 0, 1, 1, 3, 0, 0);
            facts(x, false, 0, 1, 1, 1, 1, 1, 0, 0, 0);
            facts(x, false, 1, 2, 4, 0, 1, 1, 5, 0, 0);
            fiddlers(x, 0, 1, 1, 9);
            fiddlers(x, 1, 2, 2, 0);
            check.same("pairs of 4", 0, x.shoes(4, false));
            check.same("pairs of 7", 8, x.shoes(7, false));
            check.same("danced(0, 0)", NONE, x.danced(0, 0));
            fails(x, INDEX, "dance 0", () -> x.partner(0, 0));
            fails(x, INDEX, "leader 1", () -> x.next(1));
            check.same("share()", 0.0, x.share());
            check.same("the first dance", 1, x.dance());
            partners(x, 0, 0);
            check.same("the bag goes on", 8, x.endNight());
            DanceHall y = hallBehind30Dances();
            y.parse();
            values(y, 0, 0, 6, 999, 6, 12, 0, 0, 0, 120, 2, 2, 60, 60);
            check.same("there is room for dances again", 1, y.danceOn());
        });
        says.edge("The text stays as it is.", () -> {
            DanceHall x = hallOf("l1,1;");
            check.same("once more", 1, x.parse());
            x.append('f');
            check.same("with an error", -16, x.parse());
            check.same("with the same error", -16, x.parse());
            check.same("its length", 6, x.clearText());
            check.same("an empty one", 0, x.parse());
        });
        says.edge("Undoable, if there is no syntax error.", () -> {
            undoable(() -> dropSaved(busyHall()), "parse", DanceHall::parse);
            undoable(HallCheck::busyHall, "parse", DanceHall::parse);
            undoable(DanceHall::new, "no guests", DanceHall::parse);
            DanceHall x = savedFull();
            x.parse();
            check.same("beside four saved states", 3, x.undo());
            check.same("the oldest one was dropped", 3, savedStates(x));
            DanceHall y = read(new DanceHall(), "l1,1");
            y.parse();
            fails(y, STATE, "nothing is saved behind an error", y::undo);
        });
        says.edge("Returns the number of guests; -10 minus the syntax error position if there is a syntax error (then "
                + "nothing changes).", () -> {
            check.same("no guests", 0, parsed(""));
            check.same("one", 1, parsed("f0,1;"));
            check.same("the most", 16, fullText().parse());
            check.same("an error at 0", -10, parsed("x"));
            check.same("an error at 1", -11, parsed("l"));
            check.same("the last byte of a hundred", -109, parsed(hundredWith('x')));
            check.same("a hundred that end too early", -110, parsed(hundredWith('1')));
            for (String text : new String[] {"x", "l", "l1,1;x", "f1,1;l2,2;l33", "l1,1;".repeat(9)}) {
                quiet(() -> read(savedFull(), text), "a syntax error in " + text, DanceHall::parse);
            }
        });
    }

    /** Fourteen guests, the letter of one more, and this as the hundredth byte. */
    private static String hundredWith(char last) {
        return "l99,9-;".repeat(8) + "f99,9-;".repeat(6) + "f" + last;
    }

    // ---- promise 26

    private static void undo() {
        says.promise(26);
        says.edge("Restores the most recently saved state and removes it from the saved states.", () -> {
            DanceHall x = hallOf(1, 1, 9);
            long first = x.digest();
            x.dance();
            x.giveTokens(true, 0, 3);
            x.undo();
            facts(x, true, 0, 8, 5, 1, 1, 1, 0, 1, 1);
            check.same("danced(0, 0)", 0, x.danced(0, 0));
            x.undo();
            check.same("digest()", first, x.digest());
            x.endNight();
            x.undo();
            check.same("another way from there", first, x.digest());
            x.undo();
            values(x, 1, 0);
            x.undo();
            values(x, 0, 0);
            fails(x, STATE, "undo() is not undone", x::undo);
        });
        says.edge("Returns the number of saved states that remain.", () -> {
            for (int calls = 1; calls <= 7; calls++) {
                DanceHall x = new DanceHall();
                for (int i = 0; i < calls; i++) {
                    x.endNight();
                }
                int saved = Math.min(4, calls);
                for (int remain = saved - 1; remain >= 0; remain--) {
                    check.same("undo()", remain, x.undo());
                    check.same("the night", calls - saved + remain, x.value(6));
                }
            }
        });
        says.edge("Throws `IllegalStateException` if there is no saved state", () -> {
            refused(DanceHall::new, STATE, "a new hall", DanceHall::undo);
            refused(() -> dropSaved(busyHall()), STATE, "all are undone", DanceHall::undo);
            refused(() -> read(new DanceHall(), "l1,1"), STATE, "a text alone", DanceHall::undo);
            DanceHall x = dropSaved(busyHall());
            fails(x, STATE, "once", x::undo);
            fails(x, STATE, "twice", x::undo);
            x.setShoes(1, 1);
            check.same("one is saved then", 0, x.undo());
        });
    }

    // ---- promise 27

    private static void digest() {
        says.promise(27);
        says.edge("Returns a hash of the state.", () -> {
            quiet(HallCheck::savedFull, "digest", DanceHall::digest);
            check.same("of halls that are alike", savedFull().digest(), savedFull().digest());
            DanceHall x = savedFull();
            check.same("twice", x.digest(), x.digest());
        });
        says.edge("Start with h = 3527 and, for each of the following values v, set h = 31 * h + v: the length of the "
                + "text; value() for 0 to 13; for each size from 1 to 9 shoes() for false and for true; for each leader, "
                + "then for each follower, the values of guest() for what = 0 to 7; for each leader its danced() with "
                + "each follower, and next(); for each fiddler the values of fiddler() for what = 0 to 2; the number of "
                + "saved states.", () -> {
            check.same("of nobody", hashOf(new DanceHall(), 0, 0), new DanceHall().digest());
            check.same("of a busy hall", hashOf(busyHall(), 11, 2), busyHall().digest());
            check.same("of a hall with saved states", hashOf(savedFull(), 11, 4), savedFull().digest());
            check.same("of leaders alone", hashOf(hallOf(2, 0, 9), 0, 2), hallOf(2, 0, 9).digest());
            check.same("of followers alone", hashOf(hallOf(0, 3, 9), 0, 3), hallOf(0, 3, 9).digest());
            check.same("of a full text", hashOf(fullText(), 100, 0), fullText().digest());
            DanceHall x = hallOf(2, 2, 9);
            x.setFiddlers(4);
            x.setPart(3, 5);
            x.dance();
            check.same("of four fiddlers", hashOf(x, 0, 4), x.digest());
            x.setFiddlers(1);
            check.same("of one fiddler", hashOf(x, 0, 4), x.digest());
            DanceHall y = lit(hallOf("l9,9-;l9,9-;f9,4-;f9,5;"), 6, 1);
            check.same("without a lamp", hashOf(y, 23, 2), y.digest());
        });
        says.edge("Returns the hash, with the overflow of long arithmetic ignored.", () -> {
            for (int nights = 0; nights < 4; nights++) {
                DanceHall x = hallBehind30Dances();
                for (int night = 0; night < nights; night++) {
                    x.endNight();
                }
                long digest = x.digest();
                BigInteger whole = wholeHashOf(x, 0, 4);
                check.holds("there is an overflow", whole.bitLength() > 64);
                check.same("of a full hall in night " + nights, whole.longValue(), digest);
            }
        });
    }

    private static long hashOf(DanceHall x, int textLength, int saved) {
        return wholeHashOf(x, textLength, saved).longValue();
    }

    /** The hash of what the calls answer, with all its digits; a long keeps the last 64 of its bits. */
    private static BigInteger wholeHashOf(DanceHall x, int textLength, int saved) {
        BigInteger h = mix(BigInteger.valueOf(3527), textLength);
        for (int what = 0; what <= 13; what++) {
            h = mix(h, x.value(what));
        }
        for (int size = 1; size <= 9; size++) {
            h = mix(mix(h, x.shoes(size, false)), x.shoes(size, true));
        }
        for (boolean leads : new boolean[] {true, false}) {
            for (int guest = 0; guest < x.value(leads ? 0 : 1); guest++) {
                for (int what = 0; what <= 7; what++) {
                    h = mix(h, x.guest(leads, guest, what));
                }
            }
        }
        for (int leader = 0; leader < x.value(0); leader++) {
            for (int follower = 0; follower < x.value(1); follower++) {
                h = mix(h, x.danced(leader, follower));
            }
            h = mix(h, x.next(leader));
        }
        for (int fiddler = 0; fiddler < x.value(10); fiddler++) {
            for (int what = 0; what <= 2; what++) {
                h = mix(h, x.fiddler(fiddler, what));
            }
        }
        return mix(h, saved);
    }

    private static BigInteger mix(BigInteger h, int v) {
        return h.multiply(BigInteger.valueOf(31)).add(BigInteger.valueOf(v));
    }
}
