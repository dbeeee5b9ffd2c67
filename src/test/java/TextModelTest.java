import java.util.ArrayList;
import java.util.List;
import java.util.Random;

/** Texts of whole words with one or two of them put wrong (always the same texts), read by a ClockKeeper and by the Model. */
public final class TextModelTest {
    private static final int TEXTS = 100000;
    private static final String[] ODD = {"run", "base", "warm", "wear", "pull", "penny", "strike", "rack", "wheel", "strokes",
        "quarters", "silent", "held", "stopped", "calendar", "plain", "months", "leap", "reach", "hour", "date", "month", "if",
        "(", "((((((((", ")", "<", ">", "=", ",", ";", "-", "+", "*", "/", "%", "0", "1", "5", "12", "13", "16", "17", "23", "24",
        "31", "32", "50", "51", "99", "100", "200", "201", "500", "501", "2000", "2001", "00", "0012", "99999999999999999999", "x",
        " ", "  ", "A", "\u00e9", "\u0000", ":", "0,0,0,0,0,0,0,0,0,0,0,0,0,0,0,0,0,0,0,0,0,0"};
    private static final String[] PARTS = {"run 3 ;", "base - 7 ;", "strike rack ( hour + 11 ) % 12 + 1 ;", "reach 5 ;",
        "strike wheel 1 , 2 , 3 ;", "quarters 1 _ 2 _ 3 _ 4 ;", "silent 22 - 6 held ;", "calendar leap ;", "warm 8 ;", "pull 2 ;",
        "strike rack if ( hour < 3 , 1 , date * month - ( 5 / hour ) ) ;"};

    private final Random chance = new Random(77);
    private final int[] kinds = new int[4];

    private TextModelTest() {
    }

    public static void main(String[] args) {
        TextModelTest test = new TextModelTest();
        for (int i = 0; i < TEXTS; i++) {
            String text = test.text();
            if (text.length() <= 400) {
                test.read(text);
            }
        }
        for (int kind = 0; kind < 4; kind++) {
            Due.is("texts with FAULT " + kind + " were " + test.kinds[kind], test.kinds[kind] > 500 ? 1 : 0, 1);
        }
        Due.end();
    }

    private String text() {
        List<String> words = new ArrayList<>();
        int parts = chance.nextInt(5) == 0 ? 14 + chance.nextInt(4) : chance.nextInt(4);
        for (int i = 0; i < parts; i++) {
            int most = parts > 4 && chance.nextInt(6) > 0 ? 2 : PARTS.length;
            words.addAll(List.of(PARTS[chance.nextInt(most)].split(" ")));
        }
        for (int wrong = chance.nextInt(3); wrong > 0; wrong--) {
            spoil(words, chance.nextInt(words.size() + 1));
        }
        StringBuilder text = new StringBuilder();
        for (String word : words) {
            text.append(chance.nextInt(10) < 3 ? " " : "").append(word.equals("_") ? " " : word);
        }
        return text.toString();
    }

    private void spoil(List<String> words, int at) {
        String odd = ODD[chance.nextInt(ODD.length)];
        if (at == words.size() || chance.nextInt(3) == 0) {
            words.add(at, odd);
        } else if (chance.nextBoolean()) {
            words.set(at, odd);
        } else {
            words.remove(at);
        }
    }

    private void read(String text) {
        ClockKeeper keeper = new ClockKeeper();
        Model model = new Model();
        Due.feed(keeper, text);
        feed(model, text);
        int got = keeper.clock(0, 0, text.length());
        kinds[got < 0 ? Math.min(3, got + 10) : 0]++;
        Due.is("clock of \"" + text + "\"", got, model.clock(0, 0, text.length()));
        Due.is("fault() of \"" + text + "\"", keeper.fault(), model.faultPlace);
        for (int i = 0; got == 0 && model.clocks.size() == 1 && i < 2; i++) {
            int seconds = chance.nextInt(43200);
            keeper.hands(0, seconds, true);
            model.hands(0, seconds, true);
            Due.is("the next STRIKE of \"" + text + "\"", keeper.told(0, 8), model.told(0, 8));
            Due.is("RINGS of \"" + text + "\"", keeper.told(0, 1), model.told(0, 1));
        }
    }

    private static void feed(Model model, String text) {
        for (int i = 0; i < text.length(); i += 20) {
            int[] f = new int[5];
            for (int j = 0; j < 20; j++) {
                f[j / 4] = f[j / 4] << 8 | (i + j < text.length() ? text.charAt(i + j) & 255 : 0);
            }
            model.feed(f);
        }
    }
}
