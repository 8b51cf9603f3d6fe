import java.util.ArrayList;
import java.util.Arrays;
import java.util.List;
import java.util.function.Consumer;

/** What the document says ahead of its promises: each sentence has a test of its own. */
final class TermsEdgesTest extends HallCheck {
    private static final Sentences says = new Sentences(check);

    public static void main(String[] args) {
        whatItIs();
        says.part("Terms");
        guests();
        shoes();
        lamps();
        aDance();
        theWaysToDance();
        theEndOfANight();
        theText();
        theSyntaxErrors();
        undo();
        exceptions();
        says.compareWithDocument();
        check.end();
    }

    // ---- what it is

    private static void whatItIs() {
        says.part("What it is");
        says.edge("Dance nights in a hall: leaders and followers with tokens and shoes, dances with as many couples as "
                + "possible that have not danced with each other that night, lamps that burn oil and leave room for so "
                + "many couples, shoes that are lent by size, tokens that are taken and shared by fiddlers, a book of "
                + "couples and dances, what-if questions, and guest lists that are read from a text.",
                TermsEdgesTest::aWholeNight);
        says.edge("a / b means division rounded down; all divided numbers are 0 or more.", () -> {
            DanceHall x = hallOf(2, 2, 9);
            x.setPart(1, 2);
            x.setLamps(6, 7);
            check.same("7 / 2 lamps are lit", 3, x.value(4));
            x.dance();
            check.same("1 / 2 lamps are lit", 0, x.value(4));
            check.same("4 * 2 / 3 tokens", 2, x.fiddler(1, 2));
            check.same("4 * 1 / 3 tokens and what is left over", 2, x.fiddler(0, 2));
            x.setLamps(6, 0);
            check.same("0 / 2 lamps are lit", 0, x.value(4));
            x.endNight();
            check.same("0 * 2 / 3 tokens", 0, x.fiddler(1, 2));
        });
        says.edge("An object is used for at most 512 calls after it has been made; what later calls answer is free.",
                TermsEdgesTest::fiveHundredAndTwelveCalls);
    }

    private static void aWholeNight() {
        DanceHall x = hallOf("l3,4-;l2,4-;f9,4-;f9,9;");
        check.same("lent to leader 1", 5, x.guest(true, 1, 5));
        check.same("follower 0 gets no shoes", 0, x.guest(false, 0, 4));
        x.setLamps(1, 9);
        check.same("one couple", 1, x.dance());
        partners(x, 0, 1, NONE);
        check.same("next", 1, x.next(1));
        check.same("danceOn()", 2, x.danceOn());
        values(x, 2, 2, 1, 3, 1, 2, 0, 3, 2, 4, 2, 2, 2, 6);
        check.same("share()", 0.5, x.share());
        check.same("endNight()", 4, x.endNight());
        fiddlers(x, 1, 2, 2);
        check.same("all dances of leader 1", 1, x.guest(true, 1, 7));
    }

    /** Calls of all kinds; hall and model answer the same up to the last one. */
    private static void fiveHundredAndTwelveCalls() {
        DanceHall x = new DanceHall();
        Model model = new Model();
        for (int call = 1; call <= 511; call++) {
            int number = call;
            check.same("call " + call, callOf(() -> modelCall(model, number)), callOf(() -> hallCall(x, number)));
        }
        check.same("call 512", model.digest(), x.digest());
        check.holds("many nights", model.value(6) > 5);
    }

    private static String callOf(Answer answer) {
        try {
            return Long.toString(answer.ask());
        } catch (RuntimeException e) {
            return e.getClass().getName();
        }
    }

    private interface Answer {
        long ask();
    }

    private static long hallCall(DanceHall x, int call) {
        if (call <= 16) {
            return x.addGuest(call % 2 == 0, 60 + call, 1 + call % 9, call % 3 > 0);
        }
        switch (call % 32) {
            case 1:
                return x.setLamps(1 + call % 6, 999);
            case 17:
                return x.undo();
            case 23:
                return x.setShoes(1 + call % 9, call % 10);
            case 29:
                return x.dancesLeft();
            case 30:
                return x.danceOn();
            case 31:
                return x.endNight();
            default:
                return x.dance();
        }
    }

    private static long modelCall(Model x, int call) {
        if (call <= 16) {
            return x.addGuest(call % 2 == 0, 60 + call, 1 + call % 9, call % 3 > 0);
        }
        switch (call % 32) {
            case 1:
                return x.setLamps(1 + call % 6, 999);
            case 17:
                return x.undo();
            case 23:
                return x.setShoes(1 + call % 9, call % 10);
            case 29:
                return x.dancesLeft();
            case 30:
                return x.danceOn();
            case 31:
                return x.endNight();
            default:
                return x.dance();
        }
    }

    // ---- guests

    private static void guests() {
        says.edge("Guests. There are at most 8 leaders and at most 8 followers, each numbered from 0.", () -> {
            DanceHall x = new DanceHall();
            for (int guest = 0; guest < 8; guest++) {
                check.same("leader", guest, x.addGuest(true, 5, 5, true));
                check.same("follower", guest, x.addGuest(false, 5, 5, true));
            }
            x.setLamps(6, 60);
            nexts(x, 0, 1, 2, 3, 4, 5, 6, 7);
            fails(x, STATE, "a ninth leader", () -> x.addGuest(true, 5, 5, true));
            fails(x, STATE, "a ninth follower", () -> x.addGuest(false, 5, 5, true));
            fails(x, INDEX, "leader 8", () -> x.guest(true, 8, 0));
            fails(x, INDEX, "follower 8", () -> x.guest(false, 8, 0));
            values(x, 8, 8);
        });
        says.edge("A guest has tokens, 0 to 99, and a shoe size, 1 to 9; it has shoes of its own, or not.", () -> {
            DanceHall x = new DanceHall();
            x.addGuest(true, 0, 1, true);
            x.addGuest(true, 99, 9, false);
            x.addGuest(true, 99, 1, false);
            x.addGuest(false, 0, 9, true);
            x.addGuest(false, 1, 9, true);
            facts(x, true, 0, 0, 1, 1);
            facts(x, true, 1, 99, 9, 0);
            facts(x, true, 2, 99, 1, 0);
            facts(x, false, 0, 0, 9, 1);
            check.same("the last token is paid", 1, x.dance());
            check.same("nobody pays below 0", 0, x.dance());
            factOfAll(x, true, 0, 0, 98, 99);
            factOfAll(x, false, 0, 0, 0);
        });
        says.edge("It is here (initially) or gone home.", () -> {
            DanceHall x = hallOf("l1,1;f1,1;");
            x.addGuest(true, 0, 9, false);
            factOfAll(x, true, 3, 1, 1);
            factOfAll(x, false, 3, 1);
            x.setHere(true, 0, false);
            factOfAll(x, true, 3, 0, 1);
        });
    }

    // ---- shoes

    private static void shoes() {
        says.edge("Shoes. The hall has 0 to 9 pairs of each size, initially 1.", () -> {
            DanceHall x = new DanceHall();
            for (int size = 1; size <= 9; size++) {
                check.same("at first", 1, x.shoes(size, false));
                check.same("none", 1, x.setShoes(size, 0));
                check.same("nine", 0, x.setShoes(size, 9));
                check.same("nine", 9, x.shoes(size, false));
                int of = size;
                fails(x, ARGUMENT, "ten", () -> x.setShoes(of, 10));
                fails(x, ARGUMENT, "minus one", () -> x.setShoes(of, -1));
            }
        });
        says.edge("A guest who is here and has no shoes is lent a pair for a dance: of its size, if there is one left "
                + "for this dance, otherwise of the size greater by 1, if there is one left (but not of size 10); "
                + "otherwise it cannot dance.", TermsEdgesTest::lentBySize);
        says.edge("Pairs are lent to the dancers of a dance in this order: first leaders, then followers, each by "
                + "ascending numbers; behind the dance they come back.", () -> {
            DanceHall x = hallOf("f5,4-;f5,4-;f5,4-;l5,4-;l5,4-;");
            factOfAll(x, true, 5, 4, 5);
            factOfAll(x, false, 5, 0, 0, 0);
            x.setShoes(4, 3);
            factOfAll(x, true, 5, 4, 4);
            factOfAll(x, false, 5, 4, 5, 0);
            check.same("left of 4", 0, x.shoes(4, true));
            check.same("left of 5", 0, x.shoes(5, true));
            for (int dance = 0; dance < 2; dance++) {
                check.same("who dances", 2, x.dance());
                check.same("the pairs of 4 are there", 3, x.shoes(4, false));
                check.same("the pairs of 5 are there", 1, x.shoes(5, false));
                factOfAll(x, true, 5, 4, 4);
                factOfAll(x, false, 5, 4, 5, 0);
            }
        });
    }

    /** Three of a size for one pair of each size, and a fourth one who is not lent any, each before the others. */
    private static void lentBySize() {
        for (int size = 1; size <= 9; size++) {
            DanceHall x = new DanceHall();
            x.addGuest(true, 5, size, true);
            for (int leader = 1; leader <= 4; leader++) {
                x.addGuest(true, 5, size, false);
                x.addGuest(false, 5, 5, true);
            }
            x.setHere(true, 1, false);
            int greater = size < 9 ? size + 1 : 0;
            int second = size < 9 ? 1 : 0;
            factOfAll(x, true, 5, 0, 0, size, greater, 0);
            factOfAll(x, true, 4, 1, 0, 1, second, 0);
            check.same("couples", 2 + second, x.dance());
            partners(x, 0, 0, NONE, 1, second == 1 ? 2 : NONE, NONE);
            x.setShoes(size, 0);
            factOfAll(x, true, 5, 0, 0, greater, 0, 0);
            if (size < 9) {
                x.setShoes(size + 1, 0);
            }
            factOfAll(x, true, 5, 0, 0, 0, 0, 0);
            x.setShoes(size, 2);
            factOfAll(x, true, 5, 0, 0, size, size, 0);
        }
    }

    // ---- lamps

    private static void lamps() {
        says.edge("Lamps. There are 1 to 6 lamps, initially 3, and oil, 0 to 999, initially 60.", () -> {
            DanceHall x = new DanceHall();
            check.same("lamps", 3, x.value(2));
            check.same("oil", 60, x.value(3));
            x.setLamps(1, 0);
            check.same("the fewest lamps", 1, x.value(2));
            check.same("the least oil", 0, x.value(3));
            x.setLamps(6, 999);
            check.same("the most lamps", 6, x.value(2));
            check.same("the most oil", 999, x.value(3));
            fails(x, ARGUMENT, "0 lamps", () -> x.setLamps(0, 60));
            fails(x, ARGUMENT, "7 lamps", () -> x.setLamps(7, 60));
            fails(x, ARGUMENT, "oil -1", () -> x.setLamps(3, -1));
            fails(x, ARGUMENT, "oil 1000", () -> x.setLamps(3, 1000));
        });
        says.edge("In a dance each lamp that is lit burns 2.", () -> {
            DanceHall x = new DanceHall();
            int burned = 0;
            for (int lamps = 1; lamps <= 6; lamps++) {
                x.setLamps(lamps, 100);
                x.dance();
                burned += 2 * lamps;
                check.same("oil with lamps " + lamps, 100 - 2 * lamps, x.value(3));
                check.same("burned", burned, x.value(13));
            }
            x.setLamps(6, 5);
            x.dance();
            check.same("four of six lamps are not lit", 1, x.value(3));
        });
        says.edge("As many lamps are lit as there are, or, if the oil is not enough for all, as many as it is enough "
                + "for: oil / 2.", () -> {
            DanceHall x = new DanceHall();
            int[] oil = {0, 1, 2, 3, 10, 11, 12, 13, 14, 999};
            int[] litOfSix = {0, 0, 1, 1, 5, 5, 6, 6, 6, 6};
            for (int i = 0; i < oil.length; i++) {
                for (int lamps = 1; lamps <= 6; lamps++) {
                    x.setLamps(lamps, oil[i]);
                    check.same(lamps + " lamps, oil " + oil[i], Math.min(lamps, litOfSix[i]), x.value(4));
                }
            }
        });
        says.edge("There is room for 2 couples for each lit lamp.", () -> {
            int[] couples = {2, 4, 6, 8, 8, 8};
            for (int lamps = 1; lamps <= 6; lamps++) {
                DanceHall x = hallOf(8, 8, 9);
                x.setLamps(lamps, 999);
                check.same("room", 2 * lamps, x.value(5));
                check.same("couples", couples[lamps - 1], x.dance());
                x.setLamps(6, 2 * lamps + 1);
                check.same("room", 2 * lamps, x.value(5));
                check.same("couples", couples[lamps - 1], x.dance());
            }
            DanceHall y = new DanceHall();
            y.setLamps(6, 1);
            check.same("no room", 0, y.value(5));
        });
    }

    // ---- a dance

    private static void aDance() {
        says.edge("A dance. Those who can dance are the guests who are here, have a token, and have shoes or are lent "
                + "some.", TermsEdgesTest::whoCanDance);
        says.edge("(Shoes are lent to all who are here and have a token, in the order told above, whether they will be "
                + "in a couple or not.)", () -> {
            DanceHall x = hallOf("l9,9-;l9,9-;f9,5;");
            check.same("leader 0 has the pair", 1, x.dance());
            check.same("leader 0 has danced with all, but has the pair", 0, x.dance());
            factOfAll(x, true, 5, 9, 0);
            x.giveTokens(true, 0, -8);
            check.same("without a token it leaves the pair", 1, x.dance());
            partners(x, 2, NONE, 0);
            x.endNight();
            x.giveTokens(true, 0, 5);
            x.setHere(true, 0, false);
            check.same("at home it leaves the pair", 1, x.dance());
            partners(x, 0, NONE, 0);
            DanceHall y = hallOf("l9,1-;l9,2-;l9,3-;f9,3-;");
            y.setLamps(1, 2);
            check.same("all are lent some, though there is room for 2", 0, y.shoes(3, true));
            factOfAll(y, false, 5, 4);
            y.setLamps(1, 1);
            factOfAll(y, false, 5, 4);
        });
        says.edge("A leader and a follower may dance with each other if both can dance, and they have not danced with "
                + "each other this night.", () -> {
            DanceHall x = hallOf(1, 1, 9);
            check.same("first", 1, x.dance());
            check.same("they have danced", 0, x.dance());
            x.endNight();
            x.setHere(true, 0, false);
            check.same("the leader cannot", 0, x.dance());
            x.setHere(true, 0, true);
            x.setHere(false, 0, false);
            check.same("the follower cannot", 0, x.dance());
            x.setHere(false, 0, true);
            check.same("both can", 1, x.dance());
            x.addGuest(true, 9, 9, true);
            check.same("the follower with another", 1, x.dance());
            partners(x, 3, NONE, 0);
        });
        says.edge("Each of both pays a token; the tokens go into the bag of the night.", () -> {
            DanceHall x = hallOf(3, 2, 9);
            x.dance();
            factOfAll(x, true, 0, 8, 8, 9);
            factOfAll(x, false, 0, 8, 8);
            check.same("the bag", 4, x.value(9));
            x.dance();
            check.same("the bag", 8, x.value(9));
            check.same("leader 2 is left", 1, x.dance());
            check.same("the bag", 10, x.value(9));
            check.same("leader 2 is left", 1, x.dance());
            check.same("the bag", 12, x.value(9));
            check.same("all have danced", 0, x.dance());
            check.same("nobody pays without a couple", 12, x.value(9));
            factOfAll(x, true, 0, 7, 7, 7);
            factOfAll(x, false, 0, 6, 6);
        });
        says.edge("The oil is burned, also if there are no couples.", () -> {
            DanceHall x = new DanceHall();
            check.same("nobody", 0, x.dance());
            check.same("oil", 54, x.value(3));
            check.same("burned", 6, x.value(13));
            DanceHall y = hallOf(1, 1, 9);
            y.setLamps(2, 9);
            y.danceOn();
            check.same("the empty dance burns, too", 1, y.value(3));
        });
        says.edge("A dance needs at least one lit lamp.", () -> {
            DanceHall x = hallOf(1, 1, 9);
            x.setLamps(6, 1);
            fails(x, STATE, "oil 1", x::dance);
            x.setLamps(6, 0);
            fails(x, STATE, "oil 0", x::dance);
            x.setLamps(6, 2);
            check.same("oil 2", 1, x.dance());
            check.same("oil", 0, x.value(3));
            fails(x, STATE, "all is burned", x::dance);
        });
    }

    /** Each of the three reasons alone, and all together. */
    private static void whoCanDance() {
        for (int reasons = 0; reasons < 16; reasons++) {
            boolean here = (reasons & 1) != 0;
            boolean token = (reasons & 2) != 0;
            boolean own = (reasons & 4) != 0;
            boolean pairs = (reasons & 8) != 0;
            DanceHall x = new DanceHall();
            x.addGuest(true, token ? 1 : 0, 3, own);
            x.addGuest(false, 1, 8, true);
            x.setHere(true, 0, here);
            x.setShoes(3, 0);
            x.setShoes(4, pairs ? 1 : 0);
            int can = here && token && (own || pairs) ? 1 : 0;
            int lent = here && token && !own && pairs ? 4 : 0;
            facts(x, true, 0, token ? 1 : 0, 3, own ? 1 : 0, here ? 1 : 0, can, lent);
            check.same("couples with reasons " + reasons, can, x.dance());
        }
    }

    // ---- the ways to dance

    private static void theWaysToDance() {
        says.edge("Couples are found so that there are as many as possible, but not more than there is room for; of "
                + "all ways to do so the first one is taken, where the followers of leader 0, leader 1 and so on are "
                + "compared one after the other: a lower follower is before a higher one, and any follower is before "
                + "none.", () -> {
            for (int danced = 0; danced < 512; danced++) {
                compareWays(3, 3, danced);
            }
            for (int danced = 0; danced < 256; danced++) {
                compareWays(4, 2, danced);
                compareWays(2, 4, danced);
            }
            threeForTwo();
        });
    }

    /** Leader 0 may dance with all; leaders 1, 2 and 3 have only followers 0 and 1 left, or one of them. */
    private static void threeForTwo() {
        compareWays(4, 4, 0b1100_1100_1100_0000);
        compareWays(4, 4, 0b1100_1101_1100_0000);
        compareWays(4, 4, 0b1110_1101_1100_0000);
    }

    /** The couples of a hall where some have danced already (a bit for each two), found by looking at all ways. */
    private static void compareWays(int leaders, int followers, int danced) {
        DanceHall x = hallOf(leaders, followers, 99);
        x.setLamps(1, 999);
        boolean[][] may = new boolean[leaders][followers];
        for (int leader = 0; leader < leaders; leader++) {
            for (int follower = 0; follower < followers; follower++) {
                may[leader][follower] = (danced >> leader * followers + follower & 1) == 0;
                if (!may[leader][follower]) {
                    danceOfTwo(x, leader, follower);
                }
            }
        }
        for (int lamps = 1; lamps <= 2; lamps++) {
            int[] best = firstBestWay(may, 2 * lamps);
            x.setLamps(lamps, 999);
            nexts(x, best);
            check.same("couples", Arrays.stream(best).filter(f -> f != NONE).count(), x.couplesWith(lamps));
        }
    }

    private static int[] firstBestWay(boolean[][] may, int room) {
        List<int[]> ways = new ArrayList<>();
        addWays(may, 0, new int[may.length], ways);
        int[] best = null;
        long most = -1;
        for (int[] way : ways) {
            long couples = Arrays.stream(way).filter(f -> f != NONE).count();
            if (couples > most && couples <= room) {
                most = couples;
                best = way;
            }
        }
        return best;
    }

    /** All ways in the order of the document: lower followers first, none at last. */
    private static void addWays(boolean[][] may, int leader, int[] way, List<int[]> ways) {
        if (leader == may.length) {
            ways.add(way.clone());
            return;
        }
        for (int follower = 0; follower < may[leader].length; follower++) {
            int chosen = follower;
            boolean free = Arrays.stream(way, 0, leader).noneMatch(f -> f == chosen);
            if (may[leader][follower] && free) {
                way[leader] = follower;
                addWays(may, leader + 1, way, ways);
            }
        }
        way[leader] = NONE;
        addWays(may, leader + 1, way, ways);
    }

    // ---- the end of a night

    private static void theEndOfANight() {
        says.edge("The end of a night. The tokens of the bag are shared by the fiddlers, of whom there are 1 to 4, "
                + "initially 2, with parts of 1 to 9, initially 1: fiddler f gets bag * part / (sum of the parts), and "
                + "what is left over goes to fiddler 0.", () -> {
            DanceHall x = new DanceHall();
            fiddlers(x, 0, 1, 1);
            sharesOf(0, new int[] {1, 1}, 0, 0);
            sharesOf(1, new int[] {1}, 2);
            sharesOf(1, new int[] {1, 1, 1, 1}, 2, 0, 0, 0);
            sharesOf(8, new int[] {1, 9, 9, 9}, 1, 5, 5, 5);
            sharesOf(8, new int[] {9, 1, 1, 1}, 13, 1, 1, 1);
            sharesOf(3, new int[] {9, 1}, 6, 0);
            sharesOf(5, new int[] {1, 9}, 1, 9);
            sharesOf(7, new int[] {1, 1, 1}, 6, 4, 4);
            sharesOf(8, new int[] {9, 9, 9, 9}, 4, 4, 4, 4);
            fails(x, ARGUMENT, "no fiddler", () -> x.setFiddlers(0));
            fails(x, ARGUMENT, "a fifth fiddler", () -> x.setFiddlers(5));
            fails(x, ARGUMENT, "part 0", () -> x.setPart(0, 0));
            fails(x, ARGUMENT, "part 10", () -> x.setPart(0, 10));
        });
        says.edge("Then the bag is empty, all guests are here again, no couple has danced, and the next night begins.",
                () -> {
            DanceHall x = hallOf(3, 3, 9);
            x.dance();
            x.dance();
            x.setHere(true, 0, false);
            x.setHere(true, 2, false);
            x.setHere(false, 1, false);
            x.endNight();
            values(x, 3, 3, 3, 48, 3, 6, 1, 0, 0, 0, 2, 2, 6, 12);
            factOfAll(x, true, 3, 1, 1, 1);
            factOfAll(x, false, 3, 1, 1, 1);
            factOfAll(x, true, 6, 0, 0, 0);
            factOfAll(x, true, 7, 2, 2, 2);
            check.same("danced(0, 0)", NONE, x.danced(0, 0));
            check.same("share()", 0.0, x.share());
            check.same("they dance with each other again", 3, x.dance());
            partners(x, 0, 0, 1, 2);
            x.endNight();
            check.same("the night after", 2, x.value(6));
        });
    }

    /** What the fiddlers would get, and get, of the bag of one dance. */
    private static void sharesOf(int couples, int[] parts, int... due) {
        DanceHall x = hallOf(couples, couples, 9);
        x.setLamps(6, 999);
        x.setFiddlers(parts.length);
        for (int fiddler = 0; fiddler < parts.length; fiddler++) {
            x.setPart(fiddler, parts[fiddler]);
        }
        check.same("couples", couples, x.dance());
        fiddlers(x, 2, due);
        check.same("the bag", 2 * couples, x.endNight());
        fiddlers(x, 1, due);
        fiddlers(x, 2, new int[parts.length]);
    }

    // ---- the text

    private static void theText() {
        says.edge("Text. The text has at most 100 bytes.", () -> {
            String full = "l99,9-;".repeat(4) + "l9,9-;".repeat(4) + "f9,9-;".repeat(8);
            check.same("bytes", 100, full.length());
            DanceHall x = read(new DanceHall(), full);
            check.same("a full text can be read", 16, x.parse());
            facts(x, false, 7, 9, 9, 0, 1);
            fails(x, STATE, "a byte too many", () -> x.append(';'));
            check.same("the text is not longer", 100, x.clearText());
            check.same("a full text that ends too early", -110, parsed("l99,9-;".repeat(8) + "f99,9-;".repeat(6) + "f1"));
        });
        says.edge("It is a list of guests, each terminated by a semicolon: \"l\" or \"f\", its tokens (one or two "
                + "digits), \",\", its shoe size (a digit 1 to 9), and perhaps \"-\" if it has no shoes.",
                TermsEdgesTest::allGuestsThatCanBeWritten);
        says.edge("There are no spaces; there may be no guests.", () -> {
            check.same("no guests", 0, parsed(""));
            String text = "l12,9-;f0,1;";
            for (int at = 0; at <= text.length(); at++) {
                String spaced = text.substring(0, at) + " " + text.substring(at);
                check.same("a space at " + at, -10 - at, parsed(spaced));
            }
            check.same("a line's end", -22, parsed(text + "\n"));
        });
    }

    private static void allGuestsThatCanBeWritten() {
        for (int tokens = 0; tokens <= 99; tokens++) {
            int size = 1 + tokens % 9;
            DanceHall x = hallOf("l" + tokens + "," + size + ";f" + tokens / 10 + tokens % 10 + "," + size + "-;");
            values(x, 1, 1);
            facts(x, true, 0, tokens, size, 1, 1);
            facts(x, false, 0, tokens, size, 0, 1);
        }
        for (String text : new String[] {"l1,1", "l1,1-", "f1,1;l1,1", "f1,1;l1,1-"}) {
            check.same("no semicolon: " + text, -10 - text.length(), parsed(text));
        }
        check.same("no tokens", -11, parsed("l,1;"));
        check.same("no comma", -12, parsed("l1;"));
        check.same("no size", -13, parsed("l1,;"));
        check.same("size 0", -13, parsed("l1,0;"));
        check.same("size 10", -14, parsed("l1,10;"));
        check.same("two signs for no shoes", -15, parsed("l1,1--;"));
        check.same("two semicolons", -15, parsed("l1,1;;"));
    }

    private static void theSyntaxErrors() {
        says.edge("The syntax error position is the index of the first byte that cannot stand where it stands (the "
                + "letter of a ninth leader or follower, a third digit, too), or the length of the text if the text "
                + "ends too early.", () -> {
            String text = "l12,9-;f0,1;";
            String digits = "0123456789";
            String[] allowed = {"lf", digits, digits + ",", ",", "123456789", "-;", ";", "lf", digits, digits + ",",
                "123456789", "-;", "lf"};
            for (int at = 0; at < allowed.length; at++) {
                for (char sign = 0; sign < 128; sign++) {
                    if (allowed[at].indexOf(sign) < 0) {
                        check.same("byte " + (int) sign + " at " + at, -10 - at, parsed(text.substring(0, at) + sign));
                        check.same("with more behind it", -10 - at, parsed(text.substring(0, at) + sign + ";l1"));
                    }
                }
                boolean whole = at == 0 || at == 7 || at == 12;
                check.same("the first " + at, whole ? at / 6 : -10 - at, parsed(text.substring(0, at)));
            }
            check.same("a third digit", -13, parsed("l123,1;"));
            check.same("a third digit, all zeros", -13, parsed("f000,1;"));
            check.same("a third digit at the end", -13, parsed("f999"));
            String leaders = "l1,1;".repeat(8);
            String followers = "f1,1;".repeat(8);
            check.same("the letter of a ninth leader", -50, parsed(leaders + "l1,1;"));
            check.same("nothing behind it", -50, parsed(leaders + "l"));
            check.same("a first follower then", 9, parsed(leaders + "f1,1;"));
            check.same("the letter of a ninth follower", -50, parsed(followers + "f1,1;"));
            check.same("a first leader then", 9, parsed(followers + "l1,1;"));
            check.same("eight of each", 16, parsed("l1,1;f1,1;".repeat(8)));
            check.same("a ninth leader behind eight of each", -90, parsed("l1,1;f1,1;".repeat(8) + "l1,1;"));
            check.same("a ninth follower behind eight of each", -90, parsed("l1,1;f1,1;".repeat(8) + "f1,1;"));
            check.same("another byte there", -90, parsed(leaders + followers + ";"));
            check.same("an earlier byte counts", -14, parsed("l1,1," + leaders + leaders));
        });
    }

    // ---- undo

    private static void undo() {
        says.edge("Undo. Each successful call of a method whose description says \"undoable\" saves the state from "
                + "before the call, even if the call changes nothing; at most 4 states are saved, and the oldest is "
                + "dropped first.", () -> {
            List<Consumer<DanceHall>> idle = List.of(x -> x.giveTokens(true, 0, 0), x -> x.setHere(false, 0, true),
                    x -> x.setShoes(5, 1), x -> x.setLamps(3, 1), x -> x.setFiddlers(2), x -> x.setPart(1, 1),
                    DanceHall::danceOn, DanceHall::parse);
            for (int i = 0; i < idle.size(); i++) {
                DanceHall x = read(hallOf("l5,5;f5,5;"), "l5,5;f5,5;");
                x.setLamps(3, 1);
                dropSaved(x);
                long before = x.digest();
                idle.get(i).accept(x);
                check.same("only the saved states are more, idle call " + i, before + 1, x.digest());
                check.same("one saved state", 0, x.undo());
                check.same("nothing else", before, x.digest());
            }
            DanceHall y = new DanceHall();
            for (int tokens = 1; tokens <= 6; tokens++) {
                y.addGuest(true, tokens, 5, true);
            }
            for (int remain = 3; remain >= 0; remain--) {
                check.same("undo()", remain, y.undo());
                check.same("leaders", remain + 2, y.value(0));
            }
            fails(y, STATE, "the first two states were dropped", y::undo);
            check.same("saved in a new hall", 0, savedStates(new DanceHall()));
            check.same("saved in a full hall", 4, savedStates(savedFull()));
        });
        says.edge("The saved state contains everything except the text.", TermsEdgesTest::allIsSaved);
    }

    /** Each thing is changed and brought back; the text goes on through it. */
    private static void allIsSaved() {
        List<Consumer<DanceHall>> changes = List.of(
            x -> x.addGuest(true, 4, 4, false), x -> x.addGuest(false, 4, 4, false), x -> x.giveTokens(true, 0, -5),
            x -> x.giveTokens(false, 1, 5), x -> x.setHere(true, 2, false), x -> x.setHere(false, 0, false),
            x -> x.setShoes(1, 9), x -> x.setShoes(9, 0), x -> x.setLamps(6, 999), x -> x.setFiddlers(4),
            x -> x.setFiddlers(1), x -> x.setPart(0, 9), x -> x.setPart(1, 9), DanceHall::dance, DanceHall::danceOn,
            DanceHall::endNight, DanceHall::parse);
        for (int i = 0; i < changes.size(); i++) {
            undoable(HallCheck::busyHall, "change " + i, changes.get(i));
            undoable(() -> dropSaved(hallOf(3, 3, 9)), "change in a first night " + i, changes.get(i));
        }
        DanceHall x = busyHall();
        int length = x.append('l');
        x.endNight();
        check.same("append", length + 1, x.append('9'));
        x.undo();
        check.same("the text is not brought back", length + 2, x.append(','));
        x.undo();
        x.append('q');
        check.same("its bytes stay", -10 - 14, x.parse());
        check.same("its length stays", length + 3, x.clearText());
        x.undo();
        check.same("nor is a text that was emptied", 0, x.clearText());
    }

    // ---- exceptions

    private static void exceptions() {
        says.edge("Exceptions. A call that throws an exception changes nothing.", () -> {
            refused(HallCheck::savedFull, ARGUMENT, "addGuest", x -> x.addGuest(true, 100, 5, true));
            refused(HallCheck::savedFull, INDEX, "giveTokens", x -> x.giveTokens(true, 3, 1));
            refused(HallCheck::savedFull, ARGUMENT, "giveTokens", x -> x.giveTokens(true, 0, 100));
            refused(HallCheck::savedFull, STATE, "giveTokens", x -> x.giveTokens(true, 0, 99));
            refused(HallCheck::savedFull, INDEX, "setHere", x -> x.setHere(true, 3, false));
            refused(HallCheck::savedFull, INDEX, "setShoes", x -> x.setShoes(0, 0));
            refused(HallCheck::savedFull, ARGUMENT, "setShoes", x -> x.setShoes(1, 10));
            refused(HallCheck::savedFull, ARGUMENT, "setLamps, good lamps", x -> x.setLamps(1, 1000));
            refused(HallCheck::savedFull, ARGUMENT, "setLamps, good oil", x -> x.setLamps(7, 1));
            refused(HallCheck::savedFull, ARGUMENT, "setFiddlers", x -> x.setFiddlers(5));
            refused(HallCheck::savedFull, INDEX, "setPart", x -> x.setPart(2, 5));
            refused(HallCheck::savedFull, ARGUMENT, "setPart", x -> x.setPart(0, 10));
            refused(HallCheck::savedFull, ARGUMENT, "append", x -> x.append(128));
            refused(() -> hallOf(8, 8, 3), STATE, "addGuest, full", x -> x.addGuest(true, 1, 1, true));
            refused(TermsEdgesTest::darkHall, STATE, "dance, no lamp", DanceHall::dance);
            refused(HallCheck::hallBehind30Dances, STATE, "dance 31", DanceHall::dance);
            refused(() -> read(new DanceHall(), "l".repeat(100)), STATE, "append, full", x -> x.append('l'));
            refused(DanceHall::new, STATE, "undo", DanceHall::undo);
        });
        says.edge("If several exceptions apply, the one that is listed first is thrown.", () -> {
            refused(() -> hallOf(8, 0, 3), ARGUMENT, "wrong tokens of a ninth", x -> x.addGuest(true, 100, 1, true));
            refused(() -> hallOf(0, 8, 3), ARGUMENT, "wrong size of a ninth", x -> x.addGuest(false, 1, 0, true));
            refused(HallCheck::busyHall, INDEX, "100 for no guest", x -> x.giveTokens(true, 3, 100));
            refused(HallCheck::busyHall, ARGUMENT, "100 is too many", x -> x.giveTokens(true, 0, 100));
            refused(HallCheck::busyHall, ARGUMENT, "-100 is too few", x -> x.giveTokens(false, 0, -100));
            refused(HallCheck::busyHall, INDEX, "ten pairs of size 10", x -> x.setShoes(10, 10));
            refused(HallCheck::busyHall, INDEX, "part 0 of no fiddler", x -> x.setPart(2, 0));
            refused(HallCheck::busyHall, INDEX, "fact 8 of no guest", x -> x.guest(false, 3, 8));
            refused(HallCheck::busyHall, INDEX, "fact 3 of no fiddler", x -> x.fiddler(2, 3));
            refused(() -> read(new DanceHall(), "l".repeat(100)), ARGUMENT, "a wrong byte too many", x -> x.append(-1));
        });
        says.edge("The constants: `NONE = -1`: There is no such thing.", () -> {
            check.same("NONE", -1, DanceHall.NONE);
            check.same("no such dance", -1, hallOf(1, 1, 1).danced(0, 0));
        });
    }

    private static DanceHall darkHall() {
        DanceHall x = hallOf(2, 2, 9);
        x.dance();
        x.setLamps(3, 1);
        return x;
    }
}
