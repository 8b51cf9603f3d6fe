import java.util.Random;

/** Lists of guests, whole, cut off, or with a byte changed: hall and model must read the same. */
final class TextRunsTest {
    private static final String BYTES = "lf0123456789,,--;; x\n\0";
    private static final int RUNS = 6000;

    public static void main(String[] args) {
        Check check = new Check();
        for (int seed = 1; seed <= RUNS && check.allRight(); seed++) {
            String text = makeText(new Random(seed));
            check.title("text " + text);
            readBoth(check, text);
        }
        check.end();
    }

    private static void readBoth(Check check, String text) {
        DanceHall hall = new DanceHall();
        Model model = new Model();
        hall.addGuest(true, 5, 5, false);
        model.addGuest(true, 5, 5, false);
        for (int i = 0; i < text.length(); i++) {
            check.same("append", model.append(text.charAt(i)), hall.append(text.charAt(i)));
        }
        check.same("parse()", model.parse(), hall.parse());
        check.same("digest()", model.digest(), hall.digest());
        check.same("clearText()", model.clearText(), hall.clearText());
        check.same("undo()", model.undo(), hall.undo());
        check.same("digest() after undo()", model.digest(), hall.digest());
    }

    private static String makeText(Random random) {
        StringBuilder text = new StringBuilder();
        int guests = random.nextInt(19);
        int lean = random.nextInt(3);
        for (int i = 0; i < guests; i++) {
            boolean leads = lean == 0 ? random.nextBoolean() : random.nextInt(10) < lean * 3;
            text.append(leads ? 'l' : 'f');
            text.append(random.nextBoolean() ? "" : random.nextInt(10)).append(random.nextInt(10));
            text.append(',').append(1 + random.nextInt(9)).append(random.nextInt(3) == 0 ? "-;" : ";");
        }
        if (random.nextInt(3) == 0 && text.length() > 0) {
            text.setCharAt(random.nextInt(text.length()), BYTES.charAt(random.nextInt(BYTES.length())));
        }
        if (random.nextInt(4) == 0) {
            text.insert(random.nextInt(text.length() + 1), BYTES.charAt(random.nextInt(BYTES.length())));
        }
        int end = random.nextInt(4) == 0 ? random.nextInt(text.length() + 1) : text.length();
        text.setLength(Math.min(end, 100));
        return text.toString();
    }
}
