import java.lang.reflect.Method;
import java.lang.reflect.Modifier;
import java.util.Arrays;
import java.util.Comparator;

/**
 * What the tests of the edges share. Each of them is a method of its own, named by its promise (p02..: promise 2)
 * and by the case, and is run by itself, on new objects.
 */
abstract class Edges {
    static final int BEYOND = Due.BEYOND;
    static final int NONE = Due.NONE;
    static final int STATE = Due.STATE;
    static final int FULL = Due.FULL;
    static final int KIND = Due.KIND;
    static final int LEAST = Integer.MIN_VALUE;
    static final int GREATEST = Integer.MAX_VALUE;

    static void runAll(Class<?> tests) throws ReflectiveOperationException {
        Method[] all = tests.getDeclaredMethods();
        Arrays.sort(all, Comparator.comparing(Method::getName));
        int run = 0;
        for (Method test : all) {
            boolean isTest = test.getName().matches("p\\d\\d[A-Z].*");
            if (isTest && Modifier.isStatic(test.getModifiers()) && test.getParameterCount() == 0) {
                Due.of(test.getName());
                test.invoke(null);
                run++;
            }
        }
        System.out.println(run + " tests run");
        Due.end();
    }

    static void due(long want, long got) {
        Due.due(want, got);
    }

    static void due(String call, long want, long got) {
        Due.due(call, want, got);
    }

    /** Just outside 0 to most, as far outside as can be, and what is inside by its lowest bits alone. */
    static int[] outside(int most) {
        return new int[] {-1, most + 1, -most - 1, LEAST, GREATEST, 65536, -65536, LEAST + 1, GREATEST - 255};
    }

    static void feed(GreatCambric x, String t) {
        int there = x.count(7);
        for (int i = 0; i < t.length(); i += 8) {
            int n = Math.min(8, t.length() - i);
            long word = 0;
            for (int k = 0; k < n; k++) {
                word |= (long) t.charAt(i + k) << 8 * k;
            }
            due(there + i + n, x.feed(word, n));
        }
    }

    static int text(GreatCambric x, int use, String t) {
        feed(x, t);
        return x.text(use);
    }

    /** A new object whose CELLS don't dry, and on which who comes by weeps so much, and is eased by half. */
    static GreatCambric steady(int wept) {
        GreatCambric x = new GreatCambric();
        due(1, text(x, 0, "" + wept));
        due(1, text(x, 1, "0"));
        return x;
    }

    /** One MOURNER of KIND 0 with SORROW 40 AT 5: it weeps 11, is eased by 5; 4 of that are left behind the YEAR. */
    static GreatCambric oneMourner() {
        GreatCambric x = new GreatCambric();
        due(0, x.mourner(0, 40, 5));
        return x;
    }

    static GreatCambric mourners(int many) {
        GreatCambric x = new GreatCambric();
        for (int i = 0; i < many; i++) {
            due(i, x.mourner(0, 40, 5));
        }
        return x;
    }

    /** A SHEET with these numbers. */
    static void write(GreatCambric x, int sheet, int bits, int... numbers) {
        due(1, x.sheet(sheet, bits, numbers.length));
        for (int i = 0; i < numbers.length; i++) {
            due(1, x.put(sheet, i, numbers[i]));
        }
    }

    static void wet(GreatCambric x, int... cells) {
        for (int c : cells) {
            x.cell(c, 0, 1);
        }
    }

    static void tear(GreatCambric x, int... cells) {
        for (int c : cells) {
            x.cell(c, 1, 1);
        }
    }

    static void dryAll(GreatCambric x) {
        for (int c = 0; c < 16; c++) {
            x.cell(c, 0, 0);
        }
    }

    /** What each CELL is WET by, from the first on; those left out by 0. */
    static void dueWet(GreatCambric x, int... wet) {
        for (int c = 0; c < 16; c++) {
            due("WET of " + c, c < wet.length ? wet[c] : 0, x.ofCell(c, 0));
        }
    }

    /** As many YEARS as are left until that one. */
    static void until(GreatCambric x, int year) {
        int left = year - x.count(1);
        for (int n = Math.min(60, left); n > 0; n = Math.min(60, left)) {
            x.years(n);
            left -= n;
        }
        due(year, x.count(1));
    }
}
