/** Counts the answers that are not due, prints each, and ends a test with 1 if there was one. */
final class Check {
    private static final int PRINTED = 50;
    private static int wrong = 0;
    private static int asked = 0;
    private static String sentence = "";

    private Check() {
    }

    /** The words of the document that the answers from here on hang on; told with each fault. */
    static void sentence(String words) {
        sentence = " [" + words + "]";
    }

    interface Call {
        void run();
    }

    interface Asked {
        long ask();
    }

    static void same(String what, long got, long due) {
        asked++;
        if (got != due) {
            tell(what + " answered " + got + ", due is " + due);
        }
    }

    static void same(String what, String got, String due) {
        asked++;
        if (!got.equals(due)) {
            tell(what + " answered '" + got + "', due is '" + due + "'");
        }
    }

    /** Exactly the class that is due, so that one that the machine throws does not pass for it. */
    static void fails(String what, Class<? extends RuntimeException> due, Call call) {
        asked++;
        try {
            call.run();
        } catch (RuntimeException e) {
            if (e.getClass() != due) {
                tell(what + " threw " + e + ", due is " + due.getName());
            }
            return;
        }
        tell(what + " threw nothing, due is " + due.getName());
    }

    static void failsOutside(String what, Call call) {
        fails(what, IndexOutOfBoundsException.class, call);
    }

    /** The text, letter by letter, and that there is none before and behind it. */
    static String text(InstructionReader x) {
        StringBuilder all = new StringBuilder();
        int size = x.about(0);
        for (int k = 0; k < size; k++) {
            all.append(x.letter(k));
        }
        failsOutside("letter before '" + all + "'", () -> x.letter(-1));
        failsOutside("letter behind '" + all + "'", () -> x.letter(size));
        return all.toString();
    }

    /** What is asked of a text in one go, for one new object. */
    static void reads(int bits, String due, int bytes, int instruction, int operands) {
        InstructionReader x = new InstructionReader();
        String call = "read(" + bits + ")";
        same(call, x.read(bits), due.length());
        same(call + " text", text(x), due);
        same(call + " about(0)", x.about(0), due.length());
        same(call + " about(1)", x.about(1), bytes);
        same(call + " about(2)", x.about(2), instruction);
        same(call + " about(3)", x.about(3), operands);
    }

    /** The line that these bits are made of; how many bytes and operands follows from both. */
    static void line(int bits, String due) {
        int operands = due.indexOf(' ') < 0 ? 0 : due.split(", ").length;
        reads(bits, due, (bits & 3) == 3 ? 4 : 2, 1, operands);
    }

    static void lines(Object... bitsAndTexts) {
        for (int i = 0; i < bitsAndTexts.length; i += 2) {
            line((Integer) bitsAndTexts[i], (String) bitsAndTexts[i + 1]);
        }
    }

    /** No line is made of these bits. */
    static void numbers(int... manyBits) {
        for (int bits : manyBits) {
            if ((bits & 3) == 3) {
                reads(bits, ".word " + Integer.toUnsignedString(bits), 4, 0, 1);
            } else {
                reads(bits, ".half " + (bits & 65535), 2, 0, 1);
            }
        }
    }

    /** An answer that a call throws is named apart from every number. */
    static String answer(Asked call) {
        try {
            return Long.toString(call.ask());
        } catch (RuntimeException e) {
            return "throws." + e.getClass().getSimpleName();
        }
    }

    static void pokeBits(InstructionReader x, int address, int bits, int bytes) {
        for (int i = 0; i < bytes; i++) {
            x.poke(address + i, bits >>> 8 * i);
        }
    }

    static void finish() {
        System.out.println(asked + " answers, " + wrong + " not as due");
        if (wrong != 0) {
            System.exit(1);
        }
    }

    private static void tell(String fault) {
        wrong++;
        if (wrong <= PRINTED) {
            System.out.println(fault + sentence);
        }
    }
}
