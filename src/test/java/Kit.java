import java.nio.charset.StandardCharsets;
import java.security.MessageDigest;
import java.security.NoSuchAlgorithmException;
import java.util.ArrayList;
import java.util.Base64;
import java.util.List;

/** A GrantServer under test: it counts the calls, puts texts on the TAPE and tells what is not as due. */
final class Kit {
    static final int NONE = GrantServer.NONE;
    static final String NO = "nothing";
    static final String ILLEGAL = "IllegalArgumentException";
    static final String UNSUPPORTED = "UnsupportedOperationException";
    static final String INDEX = "IndexOutOfBoundsException";
    static final String NO_SUCH = "NoSuchElementException";
    static final String STATE = "IllegalStateException";
    /** Of RFC 7636, appendix B. */
    static final String VERIFIER = "dBjftJeZ4CVP-mB92K27uhbUJU1p1r_wW1gFWFOEjXk";
    static final String CHALLENGE = "E9Melhoa2OwvFrEMTJguCHaoeK1t8URWbuGJSstw-cM";
    static final String S256 = "&code_challenge=" + CHALLENGE + "&code_challenge_method=S256";

    private static int wrong = 0;
    /** The sentence of the document that is tested, if a test names it. */
    static String sentence = "";

    private final GrantServer x = new GrantServer();
    private int calls = 0;
    private boolean farOn = false;

    static void due(String what, long want, long got) {
        due(what, Long.toString(want), Long.toString(got));
    }

    static void due(String what, String want, String got) {
        if (!want.equals(got)) {
            wrong++;
            String of = sentence.isEmpty() ? "" : "[" + sentence + "] ";
            System.out.println(of + what + " answered " + got + ", due is " + want);
        }
    }

    /** Ends a test's main method. */
    static void close() {
        System.out.println(wrong == 0 ? "all answers are as due" : wrong + " answers are not as due");
        if (wrong != 0) {
            System.exit(1);
        }
    }

    /** The simple name of what a call throws, marked if no throw statement of the class threw it. */
    static String thrown(Runnable call) {
        try {
            call.run();
        } catch (RuntimeException e) {
            StackTraceElement[] trace = e.getStackTrace();
            boolean own = trace.length > 0 && trace[0].getClassName().startsWith("GrantServer");
            return (own ? "" : "the machine's ") + e.getClass().getSimpleName();
        }
        return NO;
    }

    static String handle(int a, int b, int c, int d) {
        byte[] bytes = new byte[16];
        int[] numbers = {a, b, c, d};
        for (int i = 0; i < 16; i++) {
            bytes[i] = (byte) (numbers[i / 4] >> 24 - i % 4 * 8);
        }
        return Base64.getUrlEncoder().withoutPadding().encodeToString(bytes);
    }

    static String challenge(String verifier) {
        try {
            byte[] hash = MessageDigest.getInstance("SHA-256").digest(verifier.getBytes(StandardCharsets.ISO_8859_1));
            return Base64.getUrlEncoder().withoutPadding().encodeToString(hash);
        } catch (NoSuchAlgorithmException e) {
            throw new AssertionError(e);
        }
    }

    // ---- the face, counted ----

    int calls() {
        return calls;
    }

    /** This object is used for more than 512 calls, though what these answer is free. */
    Kit farOn() {
        farOn = true;
        return this;
    }

    private GrantServer called() {
        calls++;
        if (calls == 513 && !farOn) {
            due("a test of one object", "at most 512 calls", "more");
        }
        return x;
    }

    int feed(int a, int b, int c, int d, int e) { return called().feed(a, b, c, d, e); }
    boolean end(int n) { return called().end(n); }
    int again(int from, int many) { return called().again(from, many); }
    int scope() { return called().scope(); }
    int client(boolean confidential, int scopes, boolean refresh) { return called().client(confidential, scopes, refresh); }
    int redirect(int client) { return called().redirect(client); }
    void lives(int code, int access, int refresh) { called().lives(code, access, refresh); }
    int dice(int a, int b, int c, int d) { return called().dice(a, b, c, d); }
    int tick(int n) { return called().tick(n); }
    int authorize() { return called().authorize(); }
    int consent(int request, int owner, int scopes, boolean yes) { return called().consent(request, owner, scopes, yes); }
    int token() { return called().token(); }
    int revoke() { return called().revoke(); }
    int check(int scope) { return called().check(scope); }
    int status() { return called().status(); }
    int error() { return called().error(); }
    int out(int i) { return called().out(i); }
    int outs() { return called().outs(); }
    int code(int k, int what) { return called().code(k, what); }
    int family(int k, int what) { return called().family(k, what); }
    int count(int what) { return called().count(what); }

    // ---- texts ----

    /** Puts a text behind the TAPE. */
    void put(String text) {
        int had = count(11);
        for (int i = 0; i < text.length(); i += 20) {
            feed(four(text, i), four(text, i + 4), four(text, i + 8), four(text, i + 12), four(text, i + 16));
        }
        end(had + text.length());
    }

    static int four(String text, int from) {
        int number = 0;
        for (int i = from; i < from + 4; i++) {
            number = number << 8 | (i < text.length() ? text.charAt(i) : 0);
        }
        return number;
    }

    int scope(String word) {
        put(word);
        return scope();
    }

    /** A CLIENT, PUBLIC if its secret is null. */
    int client(String id, String secret, int scopes, boolean refresh) {
        put(secret == null ? id : id + "\0" + secret);
        return client(secret != null, scopes, refresh);
    }

    int redirect(int client, String text) {
        put(text);
        return redirect(client);
    }

    int authorize(String form) {
        put(form);
        return authorize();
    }

    int token(String form) {
        put(form);
        return token();
    }

    int revoke(String form) {
        put(form);
        return revoke();
    }

    int check(String handle, int scope) {
        put(handle);
        return check(scope);
    }

    String text() {
        StringBuilder text = new StringBuilder();
        int size = outs();
        for (int i = 0; i < size; i++) {
            text.append((char) out(i));
        }
        return text.toString();
    }

    /** Status, error and the length of OUT are as due. */
    void answered(String what, int status, int error, int outs) {
        due(what + ": status, error, outs", status + " " + error + " " + outs, status() + " " + error() + " " + outs());
    }

    /** Status, error and OUT are as due. */
    void answered(String what, int status, int error, String out) {
        due(what + ": status, error, OUT", status + " " + error + " " + out, status() + " " + error() + " " + text());
    }

    void refused(String what, int status, int error, String word) {
        answered(what, status, error, "{\"error\":\"" + word + "\"}");
    }

    /** All that can be looked at, but for the TAPE and the bytes of OUT. */
    String look() {
        List<Integer> all = new ArrayList<>();
        for (int what = 0; what < 11; what++) {
            all.add(count(what));
        }
        all.add(status());
        all.add(error());
        all.add(outs());
        for (int k = 0; k < count(5); k++) {
            for (int what = 0; what < 5; what++) {
                all.add(code(k, what));
            }
        }
        for (int k = 0; k < count(6); k++) {
            for (int what = 0; what < 6; what++) {
                all.add(family(k, what));
            }
        }
        return all.toString();
    }

    /** The call throws that, and changes nothing but the TAPE, which has so many bytes then. */
    void throwing(String what, String exception, int tapeBehind, Runnable call) {
        String before = look();
        due(what + " throws", exception, thrown(call));
        due(what + ": what is behind it", before, look());
        due(what + ": bytes of the TAPE", tapeBehind, count(11));
    }

    // ---- a small world ----

    /**
     * SCOPES r, w, a; CLIENT 0 is x, PUBLIC, with r and w and REFRESH; CLIENT 1 is y, with the SECRET s,
     * with r, w and a and no REFRESH. Both have the REDIRECT u:v.
     */
    static Kit world() {
        Kit kit = new Kit();
        kit.scope("r");
        kit.scope("w");
        kit.scope("a");
        kit.client("x", null, 3, true);
        kit.client("y", "s", 7, false);
        kit.redirect(0, "u:v");
        kit.redirect(1, "u:v");
        return kit;
    }

    /** A REQUEST of a CLIENT by its ID, with more PIECES behind. */
    int ask(String id, String more) {
        return authorize("client_id=" + id + "&response_type=code" + S256 + more);
    }

    /** A CODE of CLIENT x (0) or y (1) for SCOPES, made of the DICE (d, d, d, d). */
    int give(String id, int scopes, int owner, int d) {
        int request = ask(id, "");
        dice(d, d, d, d);
        return consent(request, owner, scopes, true);
    }

    static String handle(int d) {
        return handle(d, d, d, d);
    }

    /** Shows the CODE made of (d, d, d, d) as CLIENT x. */
    int redeem(int d) {
        return token("grant_type=authorization_code&client_id=x&redirect_uri=u:v&code_verifier=" + VERIFIER
            + "&code=" + handle(d));
    }

    /** Shows the REFRESH token made of (d, d, d, d) as CLIENT x, with more PIECES behind. */
    int turn(int d, String more) {
        return token("grant_type=refresh_token&client_id=x&refresh_token=" + handle(d) + more);
    }

    void roll(int... numbers) {
        for (int d : numbers) {
            dice(d, d, d, d);
        }
    }

    /** A FAMILY of x: its CODE of d, its ACCESS token of d + 1, its REFRESH token of d + 2. */
    void start(int d, int scopes, int owner) {
        give("x", scopes, owner, d);
        roll(d + 1, d + 2);
        redeem(d);
    }
}
