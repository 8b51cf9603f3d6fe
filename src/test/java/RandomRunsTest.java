import java.util.Random;

/** Long runs of calls, right and wrong ones, on a hall and on the model: both must answer the same. */
final class RandomRunsTest {
    private static final int RUNS = 400;
    private static final int CALLS = 500;

    private final Check check;
    private final Random random;
    private final DanceHall hall = new DanceHall();
    private final Model model = new Model();
    // Some runs are cautious: they ask for little that is out of range, so that nights grow long.
    private final boolean wild;
    private final boolean crowded;

    private RandomRunsTest(Check check, int seed) {
        this.check = check;
        this.random = new Random(seed);
        this.wild = seed % 4 == 0;
        this.crowded = seed % 2 == 1;
    }

    interface Question {
        double ask();
    }

    public static void main(String[] args) {
        Check check = new Check();
        for (int seed = 1; seed <= RUNS && check.allRight(); seed++) {
            check.title("run with seed " + seed);
            new RandomRunsTest(check, seed).run();
        }
        check.end();
    }

    private void run() {
        if (crowded) {
            fill();
        }
        for (int i = 0; i < CALLS - 120 && check.allRight(); i++) {
            callOne();
            if (i % 4 == 0) {
                check.same("call " + i + ": digest()", model.digest(), hall.digest());
            }
        }
    }

    private void fill() {
        for (int i = 0; i < 8; i++) {
            for (boolean leads : new boolean[] {true, false}) {
                int tokens = 1 + random.nextInt(60);
                int size = 1 + random.nextInt(9);
                boolean shoes = random.nextInt(3) > 0;
                both("fill", () -> hall.addGuest(leads, tokens, size, shoes),
                        () -> model.addGuest(leads, tokens, size, shoes));
            }
        }
        int oil = random.nextInt(1000);
        both("fill", () -> hall.setLamps(6, oil), () -> model.setLamps(6, oil));
    }

    /** A number from least to most, at times one beside that or far away. */
    private int near(int least, int most) {
        int odd = random.nextInt(wild ? 8 : 60);
        if (odd == 0) {
            return least - 1;
        }
        if (odd == 1) {
            return most + 1;
        }
        if (odd == 2) {
            return random.nextInt();
        }
        return least + random.nextInt(Math.max(1, most - least + 1));
    }

    private int guestOf(boolean leads) {
        return near(0, model.now.side(leads).size() - 1);
    }

    private void both(String call, Question due, Question asked) {
        check.same(call, answer(asked), answer(due));
    }

    private static String answer(Question question) {
        try {
            return Double.toString(question.ask());
        } catch (RuntimeException e) {
            return e.getClass().getName();
        }
    }

    private void callOne() {
        int which = random.nextInt(100);
        if (which < 46) {
            change(which);
        } else if (which < 86) {
            look(which - 46);
        } else {
            read(which - 86);
        }
    }

    private void change(int which) {
        boolean leads = random.nextBoolean();
        boolean yes = random.nextBoolean();
        if (which < 6) {
            int tokens = near(0, random.nextBoolean() ? 3 : 99);
            int size = near(1, 9);
            both("addGuest(" + leads + "," + tokens + "," + size + "," + yes + ")",
                    () -> hall.addGuest(leads, tokens, size, yes), () -> model.addGuest(leads, tokens, size, yes));
        } else if (which < 10) {
            int guest = guestOf(leads);
            int tokens = near(-99, 99);
            both("giveTokens(" + leads + "," + guest + "," + tokens + ")",
                    () -> hall.giveTokens(leads, guest, tokens), () -> model.giveTokens(leads, guest, tokens));
        } else if (which < 13) {
            int guest = guestOf(leads);
            both("setHere(" + leads + "," + guest + "," + yes + ")",
                    () -> hall.setHere(leads, guest, yes), () -> model.setHere(leads, guest, yes));
        } else if (which < 17) {
            int size = near(1, 9);
            int pairs = near(0, random.nextBoolean() ? 1 : 9);
            both("setShoes(" + size + "," + pairs + ")",
                    () -> hall.setShoes(size, pairs), () -> model.setShoes(size, pairs));
        } else if (which < 20) {
            int lamps = near(1, 6);
            int oil = near(0, random.nextBoolean() ? 9 : 999);
            both("setLamps(" + lamps + "," + oil + ")",
                    () -> hall.setLamps(lamps, oil), () -> model.setLamps(lamps, oil));
        } else if (which < 22) {
            int fiddlers = near(1, 4);
            both("setFiddlers(" + fiddlers + ")", () -> hall.setFiddlers(fiddlers), () -> model.setFiddlers(fiddlers));
        } else if (which < 25) {
            int fiddler = near(0, model.now.fiddlers - 1);
            int part = near(1, 9);
            both("setPart(" + fiddler + "," + part + ")",
                    () -> hall.setPart(fiddler, part), () -> model.setPart(fiddler, part));
        } else if (which < 38) {
            both("dance()", hall::dance, model::dance);
        } else if (which < 40) {
            both("danceOn()", hall::danceOn, model::danceOn);
        } else if (which < 41) {
            both("endNight()", hall::endNight, model::endNight);
        } else {
            both("undo()", hall::undo, model::undo);
        }
    }

    private void look(int which) {
        boolean leads = random.nextBoolean();
        int leader = guestOf(true);
        int follower = guestOf(false);
        if (which < 8) {
            int guest = guestOf(leads);
            int what = near(0, 7);
            both("guest(" + leads + "," + guest + "," + what + ")",
                    () -> hall.guest(leads, guest, what), () -> model.guest(leads, guest, what));
        } else if (which < 13) {
            int what = near(0, 13);
            both("value(" + what + ")", () -> hall.value(what), () -> model.value(what));
        } else if (which < 16) {
            int size = near(1, 9);
            both("shoes(" + size + "," + leads + ")", () -> hall.shoes(size, leads), () -> model.shoes(size, leads));
        } else if (which < 19) {
            int fiddler = near(0, model.now.fiddlers - 1);
            int what = near(0, 2);
            both("fiddler(" + fiddler + "," + what + ")",
                    () -> hall.fiddler(fiddler, what), () -> model.fiddler(fiddler, what));
        } else if (which < 22) {
            both("danced(" + leader + "," + follower + ")",
                    () -> hall.danced(leader, follower), () -> model.danced(leader, follower));
        } else if (which < 26) {
            int dance = near(0, model.now.book.size() - 1);
            both("partner(" + dance + "," + leader + ")",
                    () -> hall.partner(dance, leader), () -> model.partner(dance, leader));
        } else if (which < 29) {
            both("next(" + leader + ")", () -> hall.next(leader), () -> model.next(leader));
        } else if (which < 32) {
            int lamps = near(1, 6);
            both("couplesWith(" + lamps + ")", () -> hall.couplesWith(lamps), () -> model.couplesWith(lamps));
        } else if (which < 34) {
            both("dancesLeft()", hall::dancesLeft, model::dancesLeft);
        } else if (which < 38) {
            both("bestSize()", hall::bestSize, model::bestSize);
        } else {
            both("share()", hall::share, model::share);
        }
    }

    private void read(int which) {
        if (which < 11) {
            int value = nextByte();
            both("append(" + value + ")", () -> hall.append(value), () -> model.append(value));
        } else if (which < 13) {
            both("parse() of " + model.text, hall::parse, model::parse);
        } else if (random.nextInt(3) == 0) {
            both("clearText()", hall::clearText, model::clearText);
        }
    }

    /** Mostly a byte that can go on from the last one. */
    private int nextByte() {
        String text = model.text;
        char last = text.isEmpty() ? ';' : text.charAt(text.length() - 1);
        String fitting = "0123456789";
        if (last == ';') {
            fitting = "lf";
        } else if (last == '-') {
            fitting = ";";
        } else if (Character.isDigit(last)) {
            fitting = text.length() > 1 && text.charAt(text.length() - 2) == ',' ? "-;" : "0,,,";
        }
        if (random.nextInt(25) == 0) {
            return near(0, 127);
        }
        return fitting.charAt(random.nextInt(fitting.length()));
    }
}
