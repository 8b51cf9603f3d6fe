/** Promises 1 to 27 one by one: ordinary inputs, the edges that the document names, and wrong inputs. */
final class PromisesTest extends HallCheck {
    public static void main(String[] args) {
        newObject();
        addGuest();
        giveTokens();
        setHere();
        setShoes();
        setLamps();
        setFiddlers();
        setPart();
        dance();
        danceFindsTheFirstOfTheBestWays();
        danceMovesAllOthersOn();
        danceOn();
        endNight();
        guest();
        lentShoes();
        value();
        shoes();
        fiddler();
        danced();
        partner();
        next();
        couplesWith();
        dancesLeft();
        bestSize();
        share();
        append();
        clearText();
        parse();
        parseErrors();
        undo();
        undoOfEachCall();
        digest();
        check.end();
    }

    // ---- hall

    private static void newObject() {
        check.title("promise 1");
        DanceHall x = new DanceHall();
        values(x, 0, 0, 3, 60, 3, 6, 0, 0, 0, 0, 2, 2, 0, 0);
        for (int size = 1; size <= 9; size++) {
            check.same("pairs", 1, x.shoes(size, false));
            check.same("pairs left", 1, x.shoes(size, true));
        }
        for (int fiddler = 0; fiddler < 2; fiddler++) {
            check.same("part", 1, x.fiddler(fiddler, 0));
            check.same("got", 0, x.fiddler(fiddler, 1));
        }
        check.same("NONE", -1, DanceHall.NONE);
        check.same("clearText()", 0, x.clearText());
        check.fails(STATE, "undo()", x::undo);
        DanceHall y = new DanceHall();
        y.addGuest(true, 1, 1, true);
        check.same("leaders of another hall", 0, x.value(0));
    }

    private static void addGuest() {
        check.title("promise 2");
        DanceHall x = new DanceHall();
        check.same("first leader", 0, x.addGuest(true, 0, 1, true));
        check.same("first follower", 0, x.addGuest(false, 99, 9, false));
        check.same("second leader", 1, x.addGuest(true, 7, 4, false));
        facts(x, true, 0, 0, 1, 1, 1, 0, 0, 0, 0);
        facts(x, false, 0, 99, 9, 0, 1, 1, 9, 0, 0);
        facts(x, true, 1, 7, 4, 0, 1, 1, 4, 0, 0);
        fails(x, ARGUMENT, "tokens -1", () -> x.addGuest(true, -1, 5, true));
        fails(x, ARGUMENT, "tokens 100", () -> x.addGuest(true, 100, 5, true));
        fails(x, ARGUMENT, "size 0", () -> x.addGuest(false, 5, 0, true));
        fails(x, ARGUMENT, "size 10", () -> x.addGuest(false, 5, 10, true));
        fails(x, ARGUMENT, "far numbers", () -> x.addGuest(false, FAR, DEEP, true));
        for (int guest = 2; guest < 8; guest++) {
            check.same("leader", guest, x.addGuest(true, 1, 1, true));
        }
        fails(x, STATE, "a ninth leader", () -> x.addGuest(true, 5, 5, true));
        fails(x, ARGUMENT, "a ninth leader with a wrong size", () -> x.addGuest(true, 5, 10, true));
        check.same("a follower beside 8 leaders", 1, x.addGuest(false, 1, 1, true));
        for (int guest = 2; guest < 8; guest++) {
            check.same("follower", guest, x.addGuest(false, 1, 1, true));
        }
        fails(x, STATE, "a ninth follower", () -> x.addGuest(false, 5, 5, true));
        fails(x, ARGUMENT, "a ninth follower with wrong tokens", () -> x.addGuest(false, 100, 5, true));
    }

    private static void giveTokens() {
        check.title("promise 3");
        DanceHall x = hallOf(1, 2, 10);
        check.same("more", 13, x.giveTokens(true, 0, 3));
        check.same("fewer", 4, x.giveTokens(false, 1, -6));
        check.same("down to 0", 0, x.giveTokens(false, 1, -4));
        check.same("up to 99", 99, x.giveTokens(false, 1, 99));
        check.same("down by 99", 0, x.giveTokens(false, 1, -99));
        check.same("the other's", 10, x.guest(false, 0, 0));
        check.same("the leader's", 13, x.guest(true, 0, 0));
        fails(x, STATE, "below 0", () -> x.giveTokens(false, 1, -1));
        fails(x, STATE, "above 99", () -> x.giveTokens(true, 0, 87));
        fails(x, ARGUMENT, "100", () -> x.giveTokens(false, 1, 100));
        fails(x, ARGUMENT, "-100", () -> x.giveTokens(false, 1, -100));
        fails(x, ARGUMENT, "far up", () -> x.giveTokens(false, 1, FAR));
        fails(x, ARGUMENT, "far down", () -> x.giveTokens(false, 1, DEEP));
        fails(x, INDEX, "no such leader", () -> x.giveTokens(true, 1, 100));
        fails(x, INDEX, "no such follower", () -> x.giveTokens(false, 2, 1));
        fails(x, INDEX, "guest -1", () -> x.giveTokens(false, -1, 1));
        fails(x, INDEX, "far guest", () -> x.giveTokens(false, FAR, 1));
    }

    private static void setHere() {
        check.title("promise 4");
        DanceHall x = hallOf(2, 1, 5);
        check.same("goes", 1, x.setHere(true, 1, false));
        facts(x, true, 1, 5, 5, 1, 0, 0, 0);
        facts(x, true, 0, 5, 5, 1, 1, 1, 0);
        check.same("is gone already", 0, x.setHere(true, 1, false));
        check.same("comes back", 0, x.setHere(true, 1, true));
        check.same("is here already", 1, x.setHere(true, 1, true));
        facts(x, true, 1, 5, 5, 1, 1, 1, 0);
        check.same("a follower goes", 1, x.setHere(false, 0, false));
        check.same("no couples", 0, x.dance());
        fails(x, INDEX, "no such leader", () -> x.setHere(true, 2, true));
        fails(x, INDEX, "no such follower", () -> x.setHere(false, 1, true));
        fails(x, INDEX, "guest -1", () -> x.setHere(true, -1, true));
        fails(x, INDEX, "far guest", () -> x.setHere(true, DEEP, true));
    }

    private static void setShoes() {
        check.title("promise 5");
        DanceHall x = new DanceHall();
        check.same("size 1", 1, x.setShoes(1, 0));
        check.same("size 9", 1, x.setShoes(9, 9));
        check.same("again", 9, x.setShoes(9, 4));
        check.same("again", 0, x.setShoes(1, 2));
        check.same("pairs of 1", 2, x.shoes(1, false));
        check.same("pairs of 5", 1, x.shoes(5, false));
        check.same("pairs of 9", 4, x.shoes(9, false));
        fails(x, INDEX, "size 0", () -> x.setShoes(0, 10));
        fails(x, INDEX, "size 10", () -> x.setShoes(10, 1));
        fails(x, INDEX, "far size", () -> x.setShoes(FAR, 1));
        fails(x, ARGUMENT, "10 pairs", () -> x.setShoes(3, 10));
        fails(x, ARGUMENT, "-1 pairs", () -> x.setShoes(3, -1));
    }

    private static void setLamps() {
        check.title("promise 6");
        DanceHall x = new DanceHall();
        check.same("the oil before", 60, x.setLamps(6, 999));
        check.same("lamps", 6, x.value(2));
        check.same("oil", 999, x.value(3));
        check.same("the oil before", 999, x.setLamps(1, 0));
        check.same("lamps", 1, x.value(2));
        check.same("the oil before", 0, x.setLamps(1, 1));
        fails(x, ARGUMENT, "0 lamps", () -> x.setLamps(0, 5));
        fails(x, ARGUMENT, "7 lamps", () -> x.setLamps(7, 5));
        fails(x, ARGUMENT, "oil -1", () -> x.setLamps(2, -1));
        fails(x, ARGUMENT, "oil 1000", () -> x.setLamps(2, 1000));
        fails(x, ARGUMENT, "far numbers", () -> x.setLamps(DEEP, FAR));
        check.same("the oil burned stays", 0, x.value(13));
    }

    private static void setFiddlers() {
        check.title("promise 7");
        DanceHall x = hallOf(2, 2, 9);
        x.setPart(1, 3);
        x.dance();
        x.endNight();
        check.same("got by 1", 3, x.fiddler(1, 1));
        check.same("before", 2, x.setFiddlers(1));
        check.same("fiddlers", 1, x.value(10));
        check.same("parts", 1, x.value(11));
        fails(x, INDEX, "fiddler 1 is gone", () -> x.fiddler(1, 1));
        check.same("before", 1, x.setFiddlers(4));
        check.same("parts", 4, x.value(11));
        check.same("part of 1", 1, x.fiddler(1, 0));
        check.same("what 1 has got stays", 3, x.fiddler(1, 1));
        check.same("what 0 has got stays", 1, x.fiddler(0, 1));
        x.setPart(3, 9);
        check.same("before", 4, x.setFiddlers(4));
        check.same("part of 3", 1, x.fiddler(3, 0));
        fails(x, ARGUMENT, "0", () -> x.setFiddlers(0));
        fails(x, ARGUMENT, "5", () -> x.setFiddlers(5));
        fails(x, ARGUMENT, "far", () -> x.setFiddlers(FAR));
    }

    private static void setPart() {
        check.title("promise 8");
        DanceHall x = new DanceHall();
        check.same("before", 1, x.setPart(1, 9));
        check.same("before", 9, x.setPart(1, 2));
        check.same("before", 2, x.setPart(1, 1));
        check.same("before", 1, x.setPart(1, 2));
        check.same("before", 1, x.setPart(0, 4));
        check.same("parts", 6, x.value(11));
        fails(x, INDEX, "fiddler 2", () -> x.setPart(2, 0));
        fails(x, INDEX, "fiddler -1", () -> x.setPart(-1, 1));
        fails(x, INDEX, "far fiddler", () -> x.setPart(FAR, 1));
        fails(x, ARGUMENT, "part 0", () -> x.setPart(1, 0));
        fails(x, ARGUMENT, "part 10", () -> x.setPart(1, 10));
        x.setFiddlers(3);
        check.same("a third one's", 1, x.setPart(2, 5));
    }

    private static void dance() {
        check.title("promise 9");
        DanceHall x = hallOf(3, 2, 2);
        check.same("dance()", 2, x.dance());
        partners(x, 0, 0, 1, DanceHall.NONE);
        facts(x, true, 0, 1, 5, 1, 1, 1, 0, 1, 1);
        facts(x, true, 2, 2, 5, 1, 1, 1, 0, 0, 0);
        facts(x, false, 1, 1, 5, 1, 1, 1, 0, 1, 1);
        values(x, 3, 2, 3, 54, 3, 6, 0, 1, 2, 4, 2, 2, 2, 6);
        check.same("dance()", 2, x.dance());
        partners(x, 1, 1, 0, DanceHall.NONE);
        check.same("nobody has tokens", 0, x.dance());
        check.same("the oil burns without couples too", 42, x.value(3));
        x.setLamps(4, 5);
        check.same("dance()", 0, x.dance());
        check.same("two of four lamps burn", 1, x.value(3));
        fails(x, STATE, "no lamp can be lit", x::dance);
        x.setLamps(1, 999);
        for (int dance = 4; dance < 30; dance++) {
            check.same("dance()", 0, x.dance());
        }
        check.same("dances", 30, x.value(7));
        fails(x, STATE, "30 dances", x::dance);
        x.endNight();
        check.same("the next night", 0, x.dance());
    }

    private static void danceFindsTheFirstOfTheBestWays() {
        check.title("promise 9, couples");
        DanceHall x = hallOf(2, 2, 9);
        x.setLamps(1, 4);
        x.setHere(false, 1, false);
        check.same("leader 0 with follower 0", 1, x.dance());
        x.setHere(false, 1, true);
        nexts(x, 1, 0);
        check.same("a later couple makes leader 0 wait for a higher one", 2, x.couplesWith(1));
        DanceHall y = hallOf(3, 3, 9);
        y.setLamps(1, 60);
        check.same("room for two", 2, y.dance());
        partners(y, 0, 0, 1, DanceHall.NONE);
        nexts(y, 1, 0, DanceHall.NONE);
        DanceHall z = hallOf(2, 2, 9);
        z.setHere(true, 1, false);
        z.setHere(false, 0, false);
        check.same("leader 0 with follower 1", 1, z.dance());
        z.setHere(true, 1, true);
        z.setHere(false, 0, true);
        z.setHere(true, 0, true);
        nexts(z, 0, 1);
        z.setLamps(1, 1);
        nexts(z, DanceHall.NONE, DanceHall.NONE);
    }

    /** Leader 7 may dance with follower 0 alone, leader l with l and l + 1: all must move on for the eighth couple. */
    private static void danceMovesAllOthersOn() {
        check.title("promise 9, a long chain");
        DanceHall x = hallOf(8, 8, 99);
        x.setLamps(6, 999);
        for (int k = 1; k < 7; k++) {
            danceOfSome(x, k, 7, 0, 7 - k);
        }
        for (int k = 2; k < 8; k++) {
            danceOfSome(x, 0, 7 - k, k, 7);
        }
        danceOfSome(x, 7, 7, 7, 7);
        allHere(x, 0, 7, 0, 7);
        check.same("couplesWith(6)", 8, x.couplesWith(6));
        nexts(x, 1, 2, 3, 4, 5, 6, 7, 0);
        check.same("dance()", 8, x.dance());
        partners(x, 13, 1, 2, 3, 4, 5, 6, 7, 0);
    }

    private static void danceOfSome(DanceHall x, int firstLeader, int lastLeader, int firstFollower, int lastFollower) {
        allHere(x, firstLeader, lastLeader, firstFollower, lastFollower);
        check.same("couples in order", lastLeader - firstLeader + 1, x.dance());
        check.same("the first one", firstFollower, x.partner(x.value(7) - 1, firstLeader));
        check.same("the last one", lastFollower, x.partner(x.value(7) - 1, lastLeader));
    }

    private static void danceOn() {
        check.title("promise 10");
        DanceHall x = hallOf(2, 2, 9);
        check.same("two dances and an empty one", 3, x.danceOn());
        check.same("dances", 3, x.value(7));
        check.same("oil", 42, x.value(3));
        check.same("couples", 4, x.value(8));
        check.same("one more empty one", 1, x.danceOn());
        check.same("dances", 4, x.value(7));
        check.same("undo() of one saved state", 3, x.undo());
        check.same("dances", 3, x.value(7));
        x.undo();
        check.same("dances", 0, x.value(7));
        check.same("tokens", 9, x.guest(true, 0, 0));
        x.setLamps(1, 5);
        check.same("until the oil ends", 2, x.danceOn());
        check.same("two couples each", 4, x.value(8));
        dropSaved(x);
        long before = x.digest();
        check.same("no lamp can be lit", 0, x.danceOn());
        check.holds("a state is saved though nothing changes", before != x.digest());
        check.same("undo()", 0, x.undo());
        check.same("digest()", before, x.digest());
        DanceHall y = hallOf(8, 8, 99);
        y.setLamps(1, 999);
        check.same("until 30 dances", 30, y.danceOn());
        check.same("couples", 60, y.value(8));
        check.same("30 dances have been danced", 0, y.danceOn());
        check.same("oil", 999 - 60, y.value(3));
    }

    private static void endNight() {
        check.title("promise 11");
        DanceHall x = hallOf(3, 3, 9);
        x.setFiddlers(3);
        x.setPart(1, 2);
        x.setPart(2, 4);
        x.dance();
        x.dance();
        x.setHere(true, 0, false);
        x.setHere(false, 2, false);
        check.same("0 would get", 12 * 1 / 7 + 12 - 1 - 3 - 6, x.fiddler(0, 2));
        check.same("the bag", 12, x.endNight());
        check.same("0 has got its part and the rest", 3, x.fiddler(0, 1));
        check.same("1 has got", 3, x.fiddler(1, 1));
        check.same("2 has got", 6, x.fiddler(2, 1));
        values(x, 3, 3, 3, 48, 3, 6, 1, 0, 0, 0, 3, 7, 6, 12);
        facts(x, true, 0, 7, 5, 1, 1, 1, 0, 0, 2);
        facts(x, false, 2, 7, 5, 1, 1, 1, 0, 0, 2);
        check.same("danced(0, 0)", DanceHall.NONE, x.danced(0, 0));
        fails(x, INDEX, "a dance of last night", () -> x.partner(0, 0));
        nexts(x, 0, 1, 2);
        check.same("an empty bag", 0, x.endNight());
        check.same("the night", 2, x.value(6));
        x.dance();
        check.same("the bag", 6, x.endNight());
        check.same("0 has got in all", 3 + 6 - 1 - 3, x.fiddler(0, 1));
        check.same("1 has got in all", 4, x.fiddler(1, 1));
        check.same("2 has got in all", 9, x.fiddler(2, 1));
    }

    private static void guest() {
        check.title("promise 12");
        DanceHall x = new DanceHall();
        x.addGuest(true, 2, 3, false);
        x.addGuest(false, 3, 4, true);
        x.dance();
        facts(x, true, 0, 1, 3, 0, 1, 1, 3, 1, 1);
        facts(x, false, 0, 2, 4, 1, 1, 1, 0, 1, 1);
        x.endNight();
        x.dance();
        facts(x, true, 0, 0, 3, 0, 1, 0, 0, 1, 2);
        x.setLamps(1, 0);
        check.same("lamps do not matter", 1, x.guest(false, 0, 4));
        x.setHere(false, 0, false);
        facts(x, false, 0, 1, 4, 1, 0, 0, 0, 1, 2);
        fails(x, INDEX, "no such leader", () -> x.guest(true, 1, 8));
        fails(x, INDEX, "no such follower", () -> x.guest(false, -1, 0));
        fails(x, INDEX, "far guest", () -> x.guest(false, FAR, 0));
        fails(x, ARGUMENT, "what 8", () -> x.guest(true, 0, 8));
        fails(x, ARGUMENT, "what -1", () -> x.guest(true, 0, -1));
        fails(x, ARGUMENT, "far what", () -> x.guest(true, 0, DEEP));
    }

    private static void lentShoes() {
        check.title("promise 12, shoes that are lent");
        DanceHall x = read(new DanceHall(), "f5,4-;l5,3;l5,4-;l0,4-;l5,4-;f5,9-;f5,9-;l5,3-;");
        check.same("parse()", 8, x.parse());
        int[] leadersGet = {0, 4, 0, 5, 3};
        int[] leadersCan = {1, 1, 0, 1, 1};
        for (int leader = 0; leader < 5; leader++) {
            check.same("lent to leader " + leader, leadersGet[leader], x.guest(true, leader, 5));
            check.same("leader can dance " + leader, leadersCan[leader], x.guest(true, leader, 4));
        }
        int[] followersGet = {0, 9, 0};
        for (int follower = 0; follower < 3; follower++) {
            check.same("lent to follower " + follower, followersGet[follower], x.guest(false, follower, 5));
            int can = followersGet[follower] > 0 ? 1 : 0;
            check.same("follower can dance " + follower, can, x.guest(false, follower, 4));
        }
        x.setHere(true, 1, false);
        check.same("a leader's pair is free when it goes", 4, x.guest(true, 3, 5));
        check.same("the next size is free then", 5, x.guest(false, 0, 5));
        x.dance();
        check.same("the pairs come back", 4, x.guest(true, 3, 5));
        x.setShoes(4, 9);
        check.same("its own size again", 4, x.guest(false, 0, 5));
    }

    private static void value() {
        check.title("promise 13");
        DanceHall x = hallOf(4, 3, 9);
        x.setLamps(5, 7);
        values(x, 4, 3, 5, 7, 3, 6, 0, 0, 0, 0, 2, 2, 0, 0);
        x.dance();
        values(x, 4, 3, 5, 1, 0, 0, 0, 1, 3, 6, 2, 2, 3, 6);
        x.setLamps(2, 8);
        x.setPart(0, 5);
        x.dance();
        values(x, 4, 3, 2, 4, 2, 4, 0, 2, 6, 12, 2, 6, 6, 10);
        x.endNight();
        values(x, 4, 3, 2, 4, 2, 4, 1, 0, 0, 0, 2, 6, 6, 10);
        fails(x, ARGUMENT, "14", () -> x.value(14));
        fails(x, ARGUMENT, "-1", () -> x.value(-1));
        fails(x, ARGUMENT, "far", () -> x.value(DEEP));
    }

    private static void shoes() {
        check.title("promise 14");
        DanceHall x = new DanceHall();
        x.setShoes(6, 3);
        x.addGuest(false, 1, 6, false);
        x.addGuest(true, 1, 6, false);
        x.addGuest(true, 0, 6, false);
        x.addGuest(true, 1, 6, true);
        check.same("all", 3, x.shoes(6, false));
        check.same("left", 1, x.shoes(6, true));
        x.addGuest(true, 1, 9, false);
        check.same("the last of size 9", 0, x.shoes(9, true));
        check.same("left of size 1", 1, x.shoes(1, true));
        x.setLamps(1, 0);
        check.same("left without a lamp", 1, x.shoes(6, true));
        fails(x, INDEX, "0", () -> x.shoes(0, false));
        fails(x, INDEX, "10", () -> x.shoes(10, true));
        fails(x, INDEX, "far", () -> x.shoes(FAR, true));
    }

    private static void fiddler() {
        check.title("promise 15");
        DanceHall x = hallOf(5, 5, 9);
        x.setFiddlers(4);
        x.setPart(3, 9);
        x.dance();
        int[] part = {1, 1, 1, 9};
        int[] wouldGet = {3, 0, 0, 7};
        check.same("the bag", 10, x.value(9));
        for (int f = 0; f < 4; f++) {
            check.same("part", part[f], x.fiddler(f, 0));
            check.same("got", 0, x.fiddler(f, 1));
            check.same("would get", wouldGet[f], x.fiddler(f, 2));
        }
        x.endNight();
        for (int f = 0; f < 4; f++) {
            check.same("got", wouldGet[f], x.fiddler(f, 1));
            check.same("would get", 0, x.fiddler(f, 2));
        }
        fails(x, INDEX, "4", () -> x.fiddler(4, 3));
        fails(x, INDEX, "-1", () -> x.fiddler(-1, 0));
        fails(x, INDEX, "far", () -> x.fiddler(FAR, 0));
        fails(x, ARGUMENT, "what 3", () -> x.fiddler(0, 3));
        fails(x, ARGUMENT, "what -1", () -> x.fiddler(0, -1));
        x.setFiddlers(1);
        x.dance();
        check.same("all of it", 10, x.fiddler(0, 2));
    }

    private static void danced() {
        check.title("promise 16");
        DanceHall x = hallOf(2, 3, 9);
        check.same("danced(0, 0)", DanceHall.NONE, x.danced(0, 0));
        x.dance();
        x.dance();
        check.same("danced(0, 0)", 0, x.danced(0, 0));
        check.same("danced(1, 1)", 0, x.danced(1, 1));
        check.same("danced(0, 1)", 1, x.danced(0, 1));
        check.same("danced(1, 0)", 1, x.danced(1, 0));
        check.same("danced(1, 2)", DanceHall.NONE, x.danced(1, 2));
        fails(x, INDEX, "leader 2", () -> x.danced(2, 0));
        fails(x, INDEX, "follower 3", () -> x.danced(0, 3));
        fails(x, INDEX, "leader -1", () -> x.danced(-1, 0));
        fails(x, INDEX, "far follower", () -> x.danced(0, DEEP));
    }

    private static void partner() {
        check.title("promise 17");
        DanceHall x = hallOf(2, 1, 9);
        fails(x, INDEX, "before the first dance", () -> x.partner(0, 0));
        x.dance();
        x.dance();
        partners(x, 0, 0, DanceHall.NONE);
        partners(x, 1, DanceHall.NONE, 0);
        x.addGuest(true, 9, 5, true);
        check.same("who came later", DanceHall.NONE, x.partner(1, 2));
        fails(x, INDEX, "dance 2", () -> x.partner(2, 0));
        fails(x, INDEX, "dance -1", () -> x.partner(-1, 0));
        fails(x, INDEX, "leader 3", () -> x.partner(0, 3));
        fails(x, INDEX, "leader -1", () -> x.partner(0, -1));
        fails(x, INDEX, "far numbers", () -> x.partner(FAR, DEEP));
    }

    // ---- what if

    private static void next() {
        check.title("promise 18");
        DanceHall x = hallOf(3, 2, 9);
        long before = x.digest();
        nexts(x, 0, 1, DanceHall.NONE);
        check.same("nothing changes", before, x.digest());
        x.dance();
        nexts(x, 1, 0, DanceHall.NONE);
        x.setHere(true, 0, false);
        nexts(x, DanceHall.NONE, 0, 1);
        x.setLamps(3, 1);
        nexts(x, DanceHall.NONE, DanceHall.NONE, DanceHall.NONE);
        fails(x, INDEX, "leader 3", () -> x.next(3));
        fails(x, INDEX, "leader -1", () -> x.next(-1));
        fails(x, INDEX, "far leader", () -> x.next(FAR));
        DanceHall y = hallOf(0, 0, 9);
        y.setLamps(1, 999);
        for (int dance = 0; dance < 30; dance++) {
            y.dance();
        }
        y.addGuest(true, 1, 1, true);
        y.addGuest(false, 1, 1, true);
        check.same("30 dances do not matter", 0, y.next(0));
    }

    private static void couplesWith() {
        check.title("promise 19");
        DanceHall x = hallOf(8, 7, 9);
        int[] couples = {2, 4, 6, 7, 7, 7};
        for (int lamps = 1; lamps <= 6; lamps++) {
            check.same("couplesWith(" + lamps + ")", couples[lamps - 1], x.couplesWith(lamps));
        }
        x.setLamps(1, 5);
        check.same("oil for two lamps", 4, x.couplesWith(6));
        check.same("one lamp", 2, x.couplesWith(1));
        check.same("the lamps stay", 1, x.value(2));
        x.setLamps(1, 1);
        check.same("no oil", 0, x.couplesWith(3));
        fails(x, ARGUMENT, "0", () -> x.couplesWith(0));
        fails(x, ARGUMENT, "7", () -> x.couplesWith(7));
        fails(x, ARGUMENT, "far", () -> x.couplesWith(FAR));
    }

    private static void dancesLeft() {
        check.title("promise 20");
        DanceHall x = hallOf(3, 3, 9);
        long before = x.digest();
        check.same("three and an empty one", 4, x.dancesLeft());
        check.same("nothing changes", before, x.digest());
        x.dance();
        check.same("two and an empty one", 3, x.dancesLeft());
        x.setLamps(2, 7);
        check.same("until the oil ends", 2, x.dancesLeft());
        x.setLamps(2, 1);
        check.same("no oil", 0, x.dancesLeft());
        check.same("no state is saved", 3, x.undo());
        check.same("nobody", 1, new DanceHall().dancesLeft());
        DanceHall y = hallOf(8, 8, 99);
        y.setLamps(1, 999);
        check.same("at most 30", 30, y.dancesLeft());
        y.dance();
        check.same("one less", 29, y.dancesLeft());
        y.danceOn();
        check.same("none", 0, y.dancesLeft());
    }

    private static void bestSize() {
        check.title("promise 21");
        DanceHall x = new DanceHall();
        check.same("nobody", DanceHall.NONE, x.bestSize());
        x.addGuest(true, 1, 4, false);
        check.same("all can dance", DanceHall.NONE, x.bestSize());
        x.addGuest(true, 1, 4, false);
        x.addGuest(false, 1, 4, false);
        check.same("4 and 5 would help", 4, x.bestSize());
        x.setShoes(4, 0);
        x.setShoes(5, 0);
        x.addGuest(true, 1, 5, false);
        x.addGuest(true, 0, 3, false);
        x.setShoes(3, 0);
        check.same("who has no token does not count", 4, x.bestSize());
        x.setLamps(1, 0);
        check.same("lamps do not matter", 4, x.bestSize());
        DanceHall z = read(new DanceHall(), "l1,1-;f1,1-;f1,1-;");
        z.parse();
        check.same("the smallest size", 1, z.bestSize());
        DanceHall y = read(new DanceHall(), "l1,9-;l1,9-;l1,9-;l1,9-;l1,9-;f1,9-;f1,9-;f1,9-;f1,9-;f1,9-;");
        y.parse();
        y.setShoes(9, 9);
        check.same("a tenth pair", 9, y.bestSize());
        y.setShoes(8, 0);
        check.same("smaller ones do not help", 9, y.bestSize());
        check.same("the pairs stay", 9, y.shoes(9, false));
    }

    private static void share() {
        check.title("promise 22");
        DanceHall x = new DanceHall();
        check.same("nobody", 0.0, x.share());
        x.addGuest(true, 9, 5, true);
        check.same("no follower", 0.0, x.share());
        for (int follower = 0; follower < 3; follower++) {
            x.addGuest(false, 9, 5, true);
        }
        check.same("none yet", 0.0, x.share());
        x.dance();
        check.same("one of three", 1.0 / 3.0, x.share());
        x.addGuest(true, 9, 5, true);
        check.same("one of six", 1.0 / 6.0, x.share());
        x.danceOn();
        check.same("all", 1.0, x.share());
        x.endNight();
        check.same("the next night", 0.0, x.share());
    }

    // ---- text

    private static void append() {
        check.title("promise 23");
        DanceHall x = new DanceHall();
        check.same("0", 1, x.append(0));
        check.same("127", 2, x.append(127));
        fails(x, ARGUMENT, "-1", () -> x.append(-1));
        fails(x, ARGUMENT, "128", () -> x.append(128));
        fails(x, ARGUMENT, "far", () -> x.append(DEEP));
        for (int length = 3; length <= 100; length++) {
            check.same("append", length, x.append('l'));
        }
        fails(x, STATE, "a byte too many", () -> x.append('l'));
        fails(x, ARGUMENT, "a wrong byte too many", () -> x.append(128));
        check.fails(STATE, "append saves nothing", x::undo);
        check.same("clearText()", 100, x.clearText());
        check.same("room again", 1, x.append('l'));
    }

    private static void clearText() {
        check.title("promise 24");
        DanceHall x = read(new DanceHall(), "l1,1;");
        check.same("its length", 5, x.clearText());
        check.same("is empty", 0, x.clearText());
        check.same("no guests", 0, x.parse());
        check.same("only parse saves", 0, x.undo());
    }

    private static void parse() {
        check.title("promise 25");
        DanceHall x = hallOf(2, 3, 9);
        x.setPart(1, 3);
        x.setShoes(4, 2);
        x.dance();
        x.endNight();
        x.dance();
        x.setHere(true, 0, false);
        read(x, "l1,2;f09,9-;l99,1-;f0,5;f7,4-;");
        check.same("parse()", 5, x.parse());
        values(x, 2, 3, 3, 48, 3, 6, 1, 0, 0, 4, 2, 4, 4, 12);
        facts(x, true, 0, 1, 2, 1, 1, 1, 0, 0, 0);
        facts(x, true, 1, 99, 1, 0, 1, 1, 1, 0, 0);
        facts(x, false, 0, 9, 9, 0, 1, 1, 9, 0, 0);
        facts(x, false, 1, 0, 5, 1, 1, 0, 0, 0, 0);
        facts(x, false, 2, 7, 4, 0, 1, 1, 4, 0, 0);
        check.same("danced(0, 0)", DanceHall.NONE, x.danced(0, 0));
        fails(x, INDEX, "its dances are 0", () -> x.partner(0, 0));
        check.same("shoes(4, false)", 2, x.shoes(4, false));
        check.same("got", 3, x.fiddler(1, 1));
        check.same("the same text again", 5, x.parse());
        facts(x, false, 2, 7, 4, 0, 1, 1, 4, 0, 0);
        check.same("the text stays", 30, x.clearText());
        x.undo();
        check.same("undo()", 2, x.undo());
        check.same("tokens again", 7, x.guest(true, 1, 0));
        check.same("gone again", 0, x.guest(true, 0, 3));
        check.same("danced again", 0, x.danced(0, 0));
        check.same("no guests", 0, x.parse());
        values(x, 0, 0, 3, 48, 3, 6, 1, 0, 0, 4, 2, 4, 4, 12);
    }

    private static void parseErrors() {
        check.title("promise 25, errors");
        String good = "l12,9-;";
        String[] wrong = {"x", "L", " ", "l", "l,", "l1", "l1;", "l12", "l123", "l1,", "l1,0", "l1,a", "l1,9", "l1,99",
            "l1,9-", "l1,9--", "l1,9-9", "l1,9,", ";", "l1,1;;", "l1,1; ", "l-1,1;", "l1, 1;",
            "l:", "l1:", "l1,:", "l/", "l1/", "l1,/"};
        int[] position = {0, 0, 0, 1, 1, 2, 2, 3, 3, 3, 3, 3, 4, 4, 5, 5, 5, 4, 0, 5, 5, 1, 3, 1, 2, 3, 1, 2, 3};
        for (int i = 0; i < wrong.length; i++) {
            check.same("text " + wrong[i], -10 - position[i], parsed(wrong[i]));
            check.same("text " + good + wrong[i], -17 - position[i], parsed(good + wrong[i]));
        }
        check.same("zeros", 3, parsed("l00,1;f10,1;f0,1;"));
        String leaders = "l1,1;l1,1;l1,1;l1,1;l1,1;l1,1;l1,1;l1,1;";
        String followers = leaders.replace('l', 'f');
        check.same("eight of each", 16, parsed(leaders + followers));
        check.same("a ninth leader", -50, parsed(leaders + "l"));
        check.same("a ninth follower", -50, parsed(followers + "f1,1;"));
        check.same("a ninth of each", -90, parsed(followers + leaders + "f"));
        check.same("100 bytes that end too early", -110,
                parsed("l11,1-;f11,1-;".repeat(6) + "l1,1;f11,1-;l1,1"));
        DanceHall x = hallOf(1, 1, 9);
        x.dance();
        read(x, "f1,1;l1,1;l1,1");
        long before = x.digest();
        check.same("an error", -24, x.parse());
        check.same("nothing changes", before, x.digest());
        check.same("the text stays", 14, x.clearText());
        check.same("nothing is saved", 2, x.undo());
    }

    // ---- state

    private static void undo() {
        check.title("promise 26");
        DanceHall x = new DanceHall();
        fails(x, STATE, "no saved state", x::undo);
        for (int tokens = 10; tokens < 16; tokens++) {
            x.addGuest(true, tokens, 5, true);
        }
        for (int remain = 3; remain >= 0; remain--) {
            check.same("undo()", remain, x.undo());
            check.same("leaders", remain + 2, x.value(0));
        }
        fails(x, STATE, "the oldest two were dropped", x::undo);
        check.same("tokens stay", 11, x.guest(true, 1, 0));
        check.same("append", 1, x.append('q'));
        x.setShoes(5, 1);
        x.append('r');
        check.same("a call that changes nothing is saved", 0, x.undo());
        check.same("the text stays", 2, x.clearText());
        x.addGuest(false, 9, 5, true);
        x.dance();
        x.undo();
        values(x, 2, 1, 3, 60, 3, 6, 0, 0, 0, 0, 2, 2, 0, 0);
        facts(x, true, 0, 10, 5, 1, 1, 1, 0, 0, 0);
        check.same("danced(0, 0)", DanceHall.NONE, x.danced(0, 0));
        x.undo();
        check.same("followers", 0, x.value(1));
        x.addGuest(false, 3, 2, false);
        facts(x, false, 0, 3, 2, 0, 1, 1, 2, 0, 0);
    }

    private interface Act {
        long on(DanceHall x);
    }

    private static void undoOfEachCall() {
        Act[] undoable = {x -> x.addGuest(false, 1, 2, false), x -> x.giveTokens(true, 0, 4),
            x -> x.setHere(false, 1, false), x -> x.setShoes(1, 9), x -> x.setShoes(9, 9), x -> x.setLamps(6, 7),
            x -> x.setFiddlers(4), x -> x.setPart(1, 8), DanceHall::dance, DanceHall::danceOn,
            DanceHall::endNight, DanceHall::parse};
        Act[] quiet = {x -> x.guest(true, 0, 4), x -> x.value(5), x -> x.shoes(3, true), x -> x.fiddler(0, 2),
            x -> x.danced(0, 0), x -> x.partner(0, 0), x -> x.next(0), x -> x.couplesWith(2), DanceHall::dancesLeft,
            DanceHall::bestSize, x -> (long) (8 * x.share()), DanceHall::digest};
        for (int i = 0; i < undoable.length; i++) {
            check.title("promise 26, call " + i);
            DanceHall x = busyHall();
            long before = x.digest();
            undoable[i].on(x);
            check.holds("it changes something", before != x.digest());
            check.same("one more saved state", 2, x.undo());
            check.same("all is as before", before, x.digest());
        }
        for (int i = 0; i < quiet.length; i++) {
            check.title("promise 26, question " + i);
            DanceHall x = busyHall();
            long before = x.digest();
            long answer = quiet[i].on(x);
            check.same("the same question", answer, quiet[i].on(x));
            check.same("nothing changes", before, x.digest());
            check.same("no saved state more", 1, x.undo());
        }
    }

    private static void digest() {
        check.title("promise 27");
        DanceHall x = new DanceHall();
        int[] emptyHall = {0, 0, 3, 60, 3, 6, 0, 0, 0, 0, 2, 2, 0, 0};
        int[] allPairs = {1, 1, 1, 1, 1, 1, 1, 1, 1, 1, 1, 1, 1, 1, 1, 1, 1, 1};
        int[] twoFiddlers = {1, 0, 0, 1, 0, 0};
        long fresh = hash(new int[] {0}, emptyHall, allPairs, twoFiddlers, new int[] {0});
        check.same("of a new hall", fresh, x.digest());
        check.same("again", fresh, x.digest());
        x.addGuest(true, 2, 3, false);
        x.addGuest(false, 4, 6, true);
        x.append('l');
        int[] coupleHall = {1, 1, 3, 60, 3, 6, 0, 0, 0, 0, 2, 2, 0, 0};
        int[] oneLent = {1, 1, 1, 1, 1, 0, 1, 1, 1, 1, 1, 1, 1, 1, 1, 1, 1, 1};
        int[] leader = {2, 3, 0, 1, 1, 3, 0, 0};
        int[] follower = {4, 6, 1, 1, 1, 0, 0, 0};
        check.same("of a couple", hash(new int[] {1}, coupleHall, oneLent, leader, follower, new int[] {-1, 0},
                twoFiddlers, new int[] {2}), x.digest());
        x.dance();
        int[] danceHall = {1, 1, 3, 54, 3, 6, 0, 1, 1, 2, 2, 2, 1, 6};
        leader = new int[] {1, 3, 0, 1, 1, 3, 1, 1};
        follower = new int[] {3, 6, 1, 1, 1, 0, 1, 1};
        check.same("behind a dance", hash(new int[] {1}, danceHall, oneLent, leader, follower, new int[] {0, -1},
                new int[] {1, 0, 1, 1, 0, 1}, new int[] {3}), x.digest());
    }

    private static long hash(int[]... parts) {
        long h = 3527;
        for (int[] part : parts) {
            for (int v : part) {
                h = 31 * h + v;
            }
        }
        return h;
    }
}
