import java.util.Random;

/** Any arguments in any state, also behind the 512th call: no call throws, and each that is refused changes nothing. */
public final class SightSpacingNeverThrows {
    private static final int[] WILD = {Integer.MIN_VALUE, Integer.MIN_VALUE + 1, -1000000001, -100000, -33, -32, -21, -20, -2,
        -1, 0, 1, 2, 3, 4, 5, 6, 7, 8, 9, 10, 12, 13, 16, 17, 20, 21, 31, 32, 33, 34, 64, 99, 100, 150, 255, 256, 11111, 99999,
        100000, 65536, 1 << 30, Integer.MAX_VALUE - 1, Integer.MAX_VALUE};
    private static final String SIGNS = "aabbch  ;;::--//,,0123456789likeodd";

    private final Random random;
    private final SightSpacing x = new SightSpacing();

    private SightSpacingNeverThrows(int number) {
        random = new Random(number);
    }

    private int any() {
        return switch (random.nextInt(8)) {
            case 0 -> WILD[random.nextInt(WILD.length)];
            case 1 -> random.nextInt();
            default -> random.nextInt(9);
        };
    }

    private int call(int which) {
        return switch (which) {
            case 0 -> x.feed(random.nextInt(4) == 0 ? any() : SIGNS.charAt(random.nextInt(SIGNS.length())));
            case 1 -> random.nextInt(9) == 0 ? x.tell() : x.fault();
            case 2 -> x.told(any() + any());
            case 3 -> x.edge(any(), any(), any());
            case 4 -> x.at(any(), any());
            case 5 -> x.far(any(), any(), any());
            case 6 -> x.pair(any(), any(), any());
            case 7 -> x.cell(any(), any(), any());
            case 8 -> x.line(any(), any());
            case 9 -> x.word(any(), any(), any(), any(), any(), any());
            case 10 -> x.letter(any(), random.nextInt(100000), random.nextInt(100000), any());
            case 11 -> x.letter(any(), any(), any(), any());
            case 12 -> random.nextInt(3) == 0 ? x.forget(any()) : x.fault();
            case 13, 14 -> x.judge(any(), any(), any());
            case 15 -> x.withdraw(any(), any());
            case 16 -> x.term(any(), any());
            case 17 -> x.drift(any());
            case 18 -> x.undo(any());
            case 19 -> x.write(any(), any(), any());
            case 20 -> random.nextInt(9) == 0 ? x.tear() : x.seed(any());
            case 21 -> x.keep(any());
            default -> x.goBack(any());
        };
    }

    private String all() {
        StringBuilder b = new StringBuilder();
        for (int what = 0; what <= 16; what++) {
            b.append(x.told(what)).append(' ');
        }
        for (int c = 0; c < 8; c++) {
            b.append(x.at(c, 0)).append(' ').append(x.at(c, 1)).append(' ').append(x.at(c, 2)).append(' ');
            for (int d = 0; d < 8; d++) {
                b.append(x.pair(c, d, 0)).append(' ').append(x.pair(c, d, 1)).append(' ');
            }
            for (int k = 0; k < 10; k++) {
                b.append(x.edge(c, k / 5, k % 5)).append(' ');
            }
        }
        return b.append(x.fault()).toString();
    }

    private int go(int calls) {
        int wrong = 0;
        for (int k = 0; k < calls; k++) {
            int which = random.nextInt(23);
            String before = all();
            int got = call(which);
            boolean told = which >= 2 && which <= 9;
            if ((told || got <= -1000000001) && !before.equals(all())) {
                wrong++;
                System.out.println("call " + which + " answered " + got + ", but changed something");
            }
        }
        return wrong;
    }

    public static void main(String[] args) {
        int wrong = 0;
        for (int number = 0; number < 60; number++) {
            wrong += new SightSpacingNeverThrows(number).go(700);
        }
        System.out.println("60 runs of 700 calls, " + wrong + " that were refused or only asked, but changed something");
        if (wrong != 0) {
            System.exit(1);
        }
    }
}
