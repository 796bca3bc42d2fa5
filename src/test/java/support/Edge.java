import java.lang.reflect.Method;
import java.util.Arrays;
import java.util.HashMap;
import java.util.List;
import java.util.Map;
import java.util.Set;
import java.util.TreeMap;
import java.util.TreeSet;
import java.util.function.Supplier;
import java.util.regex.Matcher;
import java.util.regex.Pattern;

/** Boundary cases: each one stands under the heading and the sentence of the document that it holds. */
final class Edge {
    static final int BAD = -1, STATE = -2, FULL = -3, NONE = -4, WRONG = -5, NO = Integer.MIN_VALUE;
    private static final List<String> NAMES = List.of("BAD", "STATE", "FULL", "NONE", "WRONG");
    private static final int[] NO_CODERS = {-1, Scene.BUSY_CODERS, Integer.MIN_VALUE, Integer.MAX_VALUE};
    private static final int[] NO_FRAMES = {-1, Scene.BUSY_FRAMES, Integer.MIN_VALUE, Integer.MAX_VALUE};

    private static final Map<String, Set<String>> shown = new TreeMap<>();
    private static final Map<Supplier<VoiceHouse>, List<Long>> untouched = new HashMap<>();
    private static String heading = "";

    private Edge() {
    }

    /** The cases from here on hold this sentence, which the document has, word by word, under this heading. */
    static void of(String where, String sentence) {
        heading = where;
        shown.computeIfAbsent(where, key -> new TreeSet<>());
        Check.under(where + ", \"" + sentence + "\"");
        Check.isTrue("the sentence stands there", Document.under(where).contains(sentence));
    }

    static void of(int promise, String sentence) {
        of(Document.promise(promise), sentence);
    }

    /** A call of the face by its name. */
    static long call(VoiceHouse x, String name, Object... args) {
        try {
            return ((Number) method(name).invoke(x, args)).longValue();
        } catch (ReflectiveOperationException e) {
            throw new IllegalStateException(said(name, args), e);
        }
    }

    private static Method method(String name) {
        for (Method one : VoiceHouse.class.getMethods()) {
            if (one.getName().equals(name)) {
                return one;
            }
        }
        throw new IllegalStateException("no call " + name);
    }

    private static String said(String name, Object... args) {
        String list = Arrays.toString(args);
        return name + "(" + list.substring(1, list.length() - 1) + ")";
    }

    /** A call by its answer alone: of long rows, for status() is a call, too, and a house is promised for 512. */
    static void told(VoiceHouse x, long want, String name, Object... args) {
        Check.due(said(name, args), call(x, name, args), want);
    }

    /** A call that is not refused. */
    static void due(VoiceHouse x, long want, String name, Object... args) {
        told(x, want, name, args);
        if (!name.equals("status")) {
            Check.due("status() behind " + said(name, args), x.status(), 0);
        }
    }

    /** A refused call: its answer, status(), and that all else is told as by a house that was not called. */
    static void refused(Supplier<VoiceHouse> scene, int why, String name, Object... args) {
        VoiceHouse x = scene.get();
        refusedOn(x, why, name, args);
        List<Long> want = untouched.computeIfAbsent(scene, key -> Whole.of(key.get()));
        List<Long> has = Whole.of(x);
        int same = 0;
        while (same < want.size() && same < has.size() && want.get(same).equals(has.get(same))) {
            same++;
        }
        Check.due(said(name, args) + " changes nothing: numbers told as before", same, want.size());
    }

    /** A refused call on a house that the test goes on with. */
    static void refusedOn(VoiceHouse x, int why, String name, Object... args) {
        long answer = refusalAnswer(name, why);
        Check.due(said(name, args), call(x, name, args), answer);
        Check.due("status() behind " + said(name, args), x.status(), why);
        shown.get(heading).add(NAMES.get(-1 - why));
        if (answer == NO) {
            shown.get(heading).add("NO");
        }
    }

    private static long refusalAnswer(String name, int why) {
        switch (name) {
            case "index":
            case "out":
            case "state":
            case "work":
                return NO;
            case "cost":
                return Long.MIN_VALUE;
            case "digest":
                return 0;
            default:
                return why;
        }
    }

    static void bad(String name, Object... args) {
        refused(Scene.BUSY, BAD, name, args);
    }

    /** A call whose first number is a coder, for the rest of its arguments: BAD without that coder. */
    static void noSuchCoder(String name, Object... rest) {
        for (int c : NO_CODERS) {
            bad(name, behind(rest, c));
        }
        refused(Scene.FULL_HOUSE, BAD, name, behind(rest, 8));
    }

    /** A call on a coder and a frame: BAD without that coder, or that frame. */
    static void noSuchFrame(String name, Object... rest) {
        for (int c : NO_CODERS) {
            bad(name, behind(rest, c, 0));
        }
        for (int i : NO_FRAMES) {
            bad(name, behind(rest, 0, i));
        }
        refused(Scene.BUSY, BAD, name, behind(rest, 2, 0));
    }

    private static Object[] behind(Object[] rest, Object... first) {
        Object[] all = Arrays.copyOf(first, first.length + rest.length);
        System.arraycopy(rest, 0, all, first.length, rest.length);
        return all;
    }

    /** Each of these promises has had a case, and each refusal that it names one. */
    static void endPromises(int first, int last) {
        for (int number = first; number <= last; number++) {
            String promise = Document.promise(number);
            Check.under(promise);
            Check.isTrue("it has a case", shown.containsKey(promise));
            Matcher word = Pattern.compile("\\b(BAD|STATE|FULL|NONE|WRONG|NO)\\b").matcher(Document.under(promise));
            while (word.find()) {
                // "a STATE" is not a refusal but what state() and digest() tell of
                boolean noun = word.group().equals("STATE") && (number == 30 || number == 43);
                Check.isTrue("it has a case of " + word.group(),
                    noun || shown.getOrDefault(promise, Set.of()).contains(word.group()));
            }
        }
        Check.end();
    }

    static void endTerms(String... headings) {
        for (String one : headings) {
            Check.under(one);
            Check.isTrue("it has a case", shown.containsKey(one));
        }
        Check.end();
    }
}
