import java.util.ArrayList;
import java.util.List;

/** Promises 7, 8 and 9 on many stretches, against lists of where instructions begin. */
public final class WalkTest {
    private static final Dice DICE = new Dice(7);

    public static void main(String[] args) {
        for (int round = 0; round < 40; round++) {
            int[] bytes = stretch(round);
            for (int from = 0; from < 256; from++) {
                walks(bytes, from);
            }
        }
        Check.finish();
    }

    private static int[] stretch(int round) {
        int[] bytes = new int[256];
        for (int i = 0; i < bytes.length; i++) {
            int any = DICE.bits() >>> 5 & 255;
            bytes[i] = round % 4 == 0 ? any : round % 4 == 1 ? any | 3 : round % 4 == 2 ? any & ~1 : any % 24;
        }
        return bytes;
    }

    private static InstructionReader holding(int[] bytes) {
        InstructionReader x = new InstructionReader();
        for (int i = 0; i < bytes.length; i++) {
            x.poke(i, bytes[i]);
        }
        return x;
    }

    private static void walks(int[] bytes, int from) {
        List<Integer> begins = new ArrayList<>();
        int numbers = 0;
        for (int here = from; here + 1 < 256; here += (bytes[here] & 3) == 3 ? 4 : 2) {
            begins.add(here);
            numbers += isNumber(bytes, here) ? 1 : 0;
        }
        InstructionReader x = holding(bytes);
        for (int n = 0; n < begins.size() + 3; n += 1 + DICE.below(3)) {
            int due = n < begins.size() ? begins.get(n) : -1;
            Check.same("next(" + from + ", " + n + ")", x.next(from, n), due);
        }
        for (int i = 0; i < 40; i++) {
            int address = DICE.below(256);
            int due = -1;
            for (int begin : begins) {
                due = begin < address ? begin : due;
            }
            Check.same("before(" + from + ", " + address + ")", x.before(from, address), due);
        }
        Check.same("numbers(" + from + ")", x.numbers(from), numbers);
        Check.same("about(1) after going", x.about(1), 0);
    }

    private static boolean isNumber(int[] bytes, int here) {
        boolean isLong = (bytes[here] & 3) == 3;
        if (isLong && here + 3 > 255) {
            return false;
        }
        int bits = bytes[here] | bytes[here + 1] << 8;
        if (isLong) {
            bits |= bytes[here + 2] << 16 | bytes[here + 3] << 24;
        }
        return !Due.of(bits).isLine();
    }
}
