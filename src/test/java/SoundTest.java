import java.io.IOException;
import java.nio.file.Files;
import java.nio.file.Path;

/**
 * Promise 37, sentence by sentence. Of a desk that is right isSound() can't be false, so no desk alone shows what it
 * looks at: here the program is broken in one place, made anew in memory, and isSound() has to tell it.
 */
public final class SoundTest {

    private static final Path PROGRAM = Path.of("src/main/java/Checkdesk.java");

    private static final String PLACE = "return 0 <= place && place < length;";
    private static final String SPAN = "return 0 <= from && from <= to && to <= length;";
    private static final String STRETCH = "return 0 <= from && 0 <= size && 0 <= length && from <= length - size;";
    private static final String PART = "int lay(int seat, int from, int to) {";
    private static final String COMPARED = "int compared(int one, int other) {";
    private static final String BEGINNING = "int comparedFrom(int from, int one, int oneTo, int other, int otherTo) {";
    private static final String SAME = "boolean haveSameSigns(int one, int other) {";
    private static final String CODE = "int codeOf(int seat) {";
    private static final String ORDER = "int ordered(int one, int other, int order) {";

    private static String program;
    private static String sentence;

    public static void main(String[] args) throws IOException {
        program = Files.readString(PROGRAM);
        if (!program.contains("class Soundness")) {
            System.out.println("SoundTest: the program is written in another way, there is nothing to break");
            return;
        }
        sentence = "as it is";
        Due.is("the program as it is", sound(program), true);
        aPlace();
        farOnes();
        aSpan();
        itsPart();
        itsBeginnings();
        bothWaysTheOpposite();
        theSameSigns();
        eachOrder();
        ofEachThree();
        eachSeatOfThree();
        inTheDigest();
        Due.end("SoundTest");
    }

    private static void aPlace() throws IOException {
        says("of each SEAT that is THERE, and the numbers -2 to 26: a PLACE lies inside just if the SPAN and the STRETCH of 1 do");
        told(PLACE, "place == -2", false);
        told(PLACE, "place == 26", false);
        told(PLACE, "place == 24 && length == 24", false);
        told(PLACE, "place == 25 && length == 24", false);
        told(PLACE, "place == 0 && length == 0", false);
        told(PLACE, "place == 1 && length == 1", false);
        told(SPAN, "from == 26 && to == 27", false);
        told(STRETCH, "from == 26 && size == 1", false);
        // Outside of the numbers, and of a text that is MISSING (the one length below 0), nothing is looked at.
        told(PLACE, "place == -3", true);
        told(PLACE, "place == 27", true);
        told(PLACE, "place == 0 && length == -1", true);
    }

    private static void farOnes() throws IOException {
        says("and the same is told of FAR ones");
        told(PLACE, "place == -2 * FAR", false);
        told(PLACE, "place == 26 * FAR", false);
        told(SPAN, "from == 26 * FAR && to == 27 * FAR", false);
        told(SPAN, "from == -2 * FAR && to == -1 * FAR", false);
        told(STRETCH, "from == 26 * FAR && size == FAR", false);
        told(STRETCH, "from == -2 * FAR && size == FAR", false);
        told(PLACE, "place == -3 * FAR", true);
        told(PLACE, "place == 27 * FAR", true);
    }

    private static void aSpan() throws IOException {
        says("a SPAN lies inside just if the STRETCH of the difference does");
        told(SPAN, "from == -2 && to == -2", false);
        told(SPAN, "from == 26 && to == 26", false);
        told(SPAN, "from == 26 && to == -2", false);
        told(SPAN, "from == -2 && to == 26", false);
        told(SPAN, "from == 25 && to == 25 && length == 24", false);
        told(STRETCH, "from == -2 && size == 28", false);
        told(STRETCH, "from == 26 && size == -28", false);
        told(STRETCH, "from == 3 && size == -1 && length == 24", false);
        told(STRETCH, "from == 26 && size == 0", false);
        told(STRETCH, "from == -2 && size == 29", true);
        told(SPAN, "from == 28 && to == 28", true);
    }

    private static void itsPart() throws IOException {
        says("and then its part has as many SIGNS");
        begins(PART, "if (seat == 8 && from == 0 && to == 24) { return 23; }", false);
        begins(PART, "if (seat == 8 && from == 24 && to == 24) { return 1; }", false);
        begins(PART, "if (seat == 0 && from == 0 && to == 1) { return 0; }", false);
        begins(PART, "if (from == 0 && to == 25) { return 0; }", true);
    }

    private static void itsBeginnings() throws IOException {
        says("the text COMPARED is 1 behind each of its beginnings that is shorter");
        begins(BEGINNING, "if (one == 8 && other == 8 && oneTo == 24 && otherTo == 23) { return 0; }", false);
        begins(BEGINNING, "if (one == 8 && other == 8 && oneTo == 24 && otherTo == 0) { return -1; }", false);
        begins(BEGINNING, "if (one == 0 && other == 0 && otherTo == 0) { return 0; }", false);
        begins(BEGINNING, "if (from == 0 && one == 8 && other == 8 && otherTo == 12) { return 0; }", false);
    }

    private static void bothWaysTheOpposite() throws IOException {
        says("of each two SEATS that are THERE: COMPARED both ways the opposite");
        begins(COMPARED, "if (one == 0 && other == 8) { return 1; }", false);
        begins(COMPARED, "if (one == 8 && other == 0) { return -1; }", false);
        begins(COMPARED, "if (one == 3 && other == 3) { return 1; }", false);
        begins(COMPARED, "if (one == 1 || other == 1) { return 1; }", true);
    }

    private static void theSameSigns() throws IOException {
        says("0 just if the SIGNS are the same, and (of a PAPER) its contents; then the CODES are the same");
        begins(SAME, "if (one == 0 && other == 5) { return false; }", false);
        begins(SAME, "if (one == 5 && other == 0) { return false; }", false);
        begins(SAME, "if (one == 0 && other == 8) { return true; }", false);
        begins(SAME, "if (one == 8 && other == 0) { return true; }", false);
        begins(SAME, "if (one == 1 && other == 1) { return false; }", true);
        begins(COMPARED, "if (one == 0 && other == 8 || one == 8 && other == 0) { return 0; }", false);
        begins(CODE, "if (seat == 5) { return 1; }", false);
        begins(CODE, "if (seat == 8) { return 1; }", true);
    }

    private static void eachOrder() throws IOException {
        says("of each two SEATS and each ORDER: the opposite both ways");
        for (int order = 0; order <= 3; order++) {
            begins(ORDER, "if (order == " + order + " && one == 0 && other == 8) { return 0; }", false);
            begins(ORDER, "if (order == " + order + " && one == 8 && other == 6) { return 0; }", false);
            begins(ORDER, "if (order == " + order + " && one == 1 && other == 4) { return 1; }", false);
            begins(ORDER, "if (order == " + order + " && one == 4 && other == 0) { return 0; }", false);
            begins(ORDER, "if (order == " + order + " && one == 8 && other == 8) { return 1; }", false);
        }
        begins(ORDER, "if (order == 4) { return 1; }", true);
    }

    private static void ofEachThree() throws IOException {
        says("and of each three that are THERE: what is COMPARED ahead of what is ahead of the third one is ahead of that");
        // 7 has " ", 0 "a", 8 "bb.."; where 8 is told to come ahead of 7, 0 is still between them.
        begins(COMPARED, turned(7, 8), false);
        begins(COMPARED, turned(8, 7), false);
        // Nothing is between 2 without SIGNS and 7: turned, all are a row again.
        begins(COMPARED, turned(2, 7), true);
        // 1 is MISSING: it stands in no row.
        begins(COMPARED, "if (one == 1 || other == 1) { return one == 2 || other == 2 ? 1 : -1; }", true);
        begins(COMPARED, "if (one == 1 || other == 1) { return one == 8 || other == 8 ? 1 : -1; }", true);
    }

    /** The first SEAT and the last one in each of the three roles. */
    private static void eachSeatOfThree() throws IOException {
        says("and of each three that are THERE");
        alikeButBetween(0, 4, 8);
        alikeButBetween(8, 4, 0);
        alikeButBetween(4, 0, 8);
        alikeButBetween(4, 8, 0);
    }

    /** No others are THERE: "a", "b" and "a"; where "b" is told to come ahead of the last one, these three alone are no row. */
    private static void alikeButBetween(int one, int other, int third) throws IOException {
        String broken = program.replace(COMPARED, COMPARED + " " + turned(other, third));
        for (String source : new String[] {program, broken}) {
            Object x = Remade.made(source);
            for (int seat = 0; seat <= 8; seat++) {
                Remade.call(x, "leave", seat);
            }
            Remade.call(x, "fill", one, 6, 1);
            Remade.call(x, "fill", other, 7, 1);
            Remade.call(x, "fill", third, 6, 1);
            boolean sound = source.equals(program);
            Due.is("[" + sentence + "] " + one + ", " + other + ", " + third, Remade.call(x, "isSound"), sound);
        }
    }

    private static String turned(int one, int other) {
        return "if (one == " + one + " && other == " + other + " || one == " + other + " && other == " + one + ") {"
                + " return comparedFrom(0, other, sizes[other], one, sizes[one]); }";
    }

    private static void inTheDigest() throws IOException {
        sentence = "promise 38: 1 if isSound(), otherwise 0";
        String broken = program.replace("return areChainsSound(texts);", "return false;");
        Due.is(sentence + ", isSound", sound(broken), false);
        Due.is(sentence, (Long) Remade.call(desk(broken), "digest") + 1, (Long) Remade.call(desk(program), "digest"));
    }

    private static void says(String words) {
        Doc.cite("Promise 37", words);
        sentence = words;
    }

    /** Where this holds, the program tells that something lies inside. */
    private static void told(String answer, String where, boolean sound) throws IOException {
        breaks(answer, answer.replace("return ", "return " + where + " || "), sound);
    }

    /** The method begins with this. */
    private static void begins(String method, String statement, boolean sound) throws IOException {
        breaks(method, method + " " + statement, sound);
    }

    private static void breaks(String right, String wrong, boolean sound) throws IOException {
        int at = program.indexOf(right);
        Due.is("\"" + right + "\" stands in the program once", at >= 0 && program.indexOf(right, at + 1) < 0, true);
        Due.is("[" + sentence + "] isSound() with " + wrong, sound(program.replace(right, wrong)), sound);
    }

    private static boolean sound(String source) throws IOException {
        return (Boolean) Remade.call(desk(source), "isSound");
    }

    /** 0, 5 and 6 "a", 1 and 4 MISSING, 2 "", 3 24 times "b", 7 " ", 8 "b" 24 times, too, but with a "z" at its end. */
    private static Object desk(String source) throws IOException {
        Object x = Remade.made(source);
        Remade.call(x, "fill", 0, 6, 1);
        Remade.call(x, "leave", 1);
        Remade.call(x, "fill", 3, 7, 24);
        Remade.call(x, "leave", 4);
        Remade.call(x, "fill", 5, 6, 1);
        Remade.call(x, "fill", 6, 6, 1);
        Remade.call(x, "fill", 7, 0, 1);
        Remade.call(x, "fill", 8, 7, 23);
        Remade.call(x, "write", 8, 8, -1, -1);
        return x;
    }
}
