/** Words of a machine with fixed words: what each is, where it goes, and the word that goes somewhere else instead. */
public final class WordForms {
    private static final int NONE = 0;
    private static final int ADD_NUMBER = 1;
    private static final int ADD = 2;
    private static final int AND = 3;
    private static final int MOVE = 4;
    private static final int ADRP = 5;
    private static final int MADD = 6;
    private static final int TWO = 7;
    private static final int CHOOSE = 8;
    private static final int LOAD_NUMBER = 9;
    private static final int LOAD_REGISTER = 10;
    private static final int PAIR = 11;
    private static final int B = 12;
    private static final int BL = 13;
    private static final int B_COND = 14;
    private static final int CBZ = 15;
    private static final int TBZ = 16;
    private static final int BR = 17;
    private static final int RET = 19;

    // Mask and value of each kind, in the order of the kinds from 1 on; no word fits two of them.
    private static final int[] FORMS = {
        0x1F800000, 0x11000000, // ADD by a number
        0x1F200000, 0x0B000000, // ADD
        0x1F000000, 0x0A000000, // AND
        0x1F800000, 0x12800000, // MOVE
        0x9F000000, 0x90000000, // ADRP
        0x7FE00000, 0x1B000000, // MADD
        0x7FE00000, 0x1AC00000, // Two
        0x7FE00800, 0x1A800000, // CHOOSE
        0x3F000000, 0x39000000, // LOAD by a number
        0x3F20EC00, 0x38206800, // LOAD by a register
        0xFE000000, 0xA8000000, // PAIR
        0xFC000000, 0x14000000, // B
        0xFC000000, 0x94000000, // BL
        0xFF000010, 0x54000000, // B.cond
        0x7E000000, 0x34000000, // CBZ and CBNZ
        0x7E000000, 0x36000000, // TBZ and TBNZ
        0xFFFFFC1F, 0xD61F0000, // BR
        0xFFFFFC1F, 0xD63F0000, // BLR
        0xFFFFFC1F, 0xD65F0000, // RET
        0xFFE0001F, 0xD4000001, // CALL
        0xFFFFFFFF, 0xD503201F  // nothing
    };

    private static final int HIGHEST_CONDITION = 13;
    private static final int NOT_GOING = 1;
    private static final long NO_PAGE = -1L;
    private static final int NO_REGISTER = -1;

    private static final int PAGE_BITS = 12;
    private static final long PAGES_REACHED = 1048576L;
    private static final int ADRP_NUMBER_MASK = 0x60FFFFE0;

    public WordForms() {
    }

    public int kind(int w) {
        int form = formOf(w);
        return isAllowed(form, w) ? form : NONE;
    }

    public int by(int w) {
        int kind = kind(w);
        if (!isGoing(kind)) {
            return NOT_GOING;
        }
        return signedBits(w, distancePlace(kind), distanceWidth(kind)) * 4;
    }

    public int going(int w, int by) {
        int kind = kind(w);
        if (!isWithinReach(kind, by)) {
            return w;
        }
        int place = distancePlace(kind);
        int field = lowBits(distanceWidth(kind)) << place;
        return (w & ~field) | (((by >> 2) << place) & field);
    }

    public boolean reaches(int w, long by) {
        return isWithinReach(kind(w), by);
    }

    public int turned(int w) {
        switch (kind(w)) {
            case B_COND:
                return w ^ 1;
            case CBZ:
            case TBZ:
                return w ^ (1 << 24);
            default:
                return w;
        }
    }

    public long page(int w, long address) {
        if (kind(w) != ADRP) {
            return NO_PAGE;
        }
        long pages = signedBits(w, 5, 19) * 4L + bits(w, 29, 2);
        return ((address >> PAGE_BITS) + pages) << PAGE_BITS;
    }

    public int paging(int w, long address, long target) {
        if (kind(w) != ADRP) {
            return w;
        }
        // Shifted before they are subtracted, so that pages at the two ends of the longs stay far apart.
        long pages = (target >> PAGE_BITS) - (address >> PAGE_BITS);
        if (pages >= PAGES_REACHED || pages < -PAGES_REACHED) {
            return w;
        }
        int number = (int) pages;
        int high = bits(number, 2, 19) << 5;
        int low = bits(number, 0, 2) << 29;
        return (w & ~ADRP_NUMBER_MASK) | high | low;
    }

    public boolean goesOn(int w) {
        int kind = kind(w);
        return kind != NONE && kind != B && kind != BR && kind != RET;
    }

    public int register(int w, int what) {
        int kind = kind(w);
        switch (what) {
            case 0:
                return hasD(kind) ? bits(w, 0, 5) : NO_REGISTER;
            case 1:
                return hasN(kind) ? bits(w, 5, 5) : NO_REGISTER;
            case 2:
                return hasM(kind) ? bits(w, 16, 5) : NO_REGISTER;
            case 3:
                return hasA(kind) ? bits(w, 10, 5) : NO_REGISTER;
            default:
                return NO_REGISTER;
        }
    }

    private static int formOf(int w) {
        for (int i = 0; i + 1 < FORMS.length; i += 2) {
            if ((w & FORMS[i]) == FORMS[i + 1]) {
                return i / 2 + 1;
            }
        }
        return NONE;
    }

    // A word of a form may still hold a field that the machine has no meaning for.
    private static boolean isAllowed(int form, int w) {
        switch (form) {
            case ADD:
                return bits(w, 22, 2) != 3 && isMovedWithin(w);
            case AND:
                return isMovedWithin(w);
            case MOVE:
                return bits(w, 29, 2) != 1 && (isLong(w) || bits(w, 21, 2) < 2);
            case TWO:
                return isTwo(bits(w, 10, 6));
            case CHOOSE:
                return isCondition(bits(w, 12, 4));
            case LOAD_NUMBER:
            case LOAD_REGISTER:
                return isLoad(bits(w, 30, 2), bits(w, 22, 2));
            case PAIR:
                return isPair(w);
            case B_COND:
                return isCondition(bits(w, 0, 4));
            default:
                return true;
        }
    }

    private static boolean isMovedWithin(int w) {
        return isLong(w) || bits(w, 10, 6) < 32;
    }

    private static boolean isTwo(int operation) {
        return operation == 2 || operation == 3 || operation >= 8 && operation <= 10;
    }

    private static boolean isCondition(int condition) {
        return condition <= HIGHEST_CONDITION;
    }

    private static boolean isLoad(int size, int way) {
        if (way == 2) {
            return size == 2;
        }
        return way != 3 && size != 1;
    }

    private static boolean isPair(int w) {
        int way = bits(w, 23, 2);
        int d = bits(w, 0, 5);
        int n = bits(w, 5, 5);
        int a = bits(w, 10, 5);
        boolean load = bits(w, 22, 1) == 1;
        if (way == 0 || load && d == a) {
            return false;
        }
        boolean changesN = way != 2;
        return !changesN || n == 31 || n != d && n != a;
    }

    private static boolean isGoing(int kind) {
        return kind >= B && kind <= TBZ;
    }

    private static int distancePlace(int kind) {
        return kind == B || kind == BL ? 0 : 5;
    }

    private static int distanceWidth(int kind) {
        if (kind == B || kind == BL) {
            return 26;
        }
        return kind == TBZ ? 14 : 19;
    }

    private static boolean isWithinReach(int kind, long distance) {
        if (!isGoing(kind) || (distance & 3L) != 0L) {
            return false;
        }
        // The field counts words and one of its bits is the sign, hence one bit more than its width.
        long end = 1L << (distanceWidth(kind) + 1);
        return distance >= -end && distance < end;
    }

    private static boolean hasD(int kind) {
        return kind >= ADD_NUMBER && kind <= PAIR || kind == CBZ || kind == TBZ;
    }

    private static boolean hasN(int kind) {
        return kind >= ADD_NUMBER && kind <= AND
            || kind >= MADD && kind <= PAIR
            || kind >= BR && kind <= RET;
    }

    private static boolean hasM(int kind) {
        return kind == ADD || kind == AND || kind >= MADD && kind <= CHOOSE || kind == LOAD_REGISTER;
    }

    private static boolean hasA(int kind) {
        return kind == MADD || kind == PAIR;
    }

    private static boolean isLong(int w) {
        return w < 0;
    }

    private static int bits(int w, int place, int width) {
        return (w >>> place) & lowBits(width);
    }

    private static int signedBits(int w, int place, int width) {
        return (w << (32 - place - width)) >> (32 - width);
    }

    private static int lowBits(int width) {
        return (1 << width) - 1;
    }
}
