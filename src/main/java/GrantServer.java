import java.util.ArrayList;
import java.util.NoSuchElementException;

/**
 * A server of grants: it reads FORMS from a TAPE, asks owners for their consent, gives out CODES,
 * changes them once for tokens, lets REFRESH tokens turn and takes FAMILIES back.
 */
public final class GrantServer {
    public static final int NONE = -1;

    private static final int TAPE_ROOM = 2000;
    // Above the longest LOCATION: a REDIRECT of 80, an error's WORD, a state of which each byte takes 3.
    private static final int OUT_ROOM = 6200;
    private static final int MOST_PIECES = 20;
    private static final int MOST_SCOPES = 8;
    private static final int MOST_CLIENTS = 8;
    private static final int MOST_REDIRECTS = 3;
    private static final int MOST_DICE = 60;
    private static final int MOST_REQUESTS = 200;
    private static final int MOST_CODES = 200;
    private static final int MOST_ACCESS = 300;
    private static final int MOST_REFRESH = 300;

    private static final int WORD_LENGTH = 12;
    private static final int ID_LENGTH = 20;
    private static final int REDIRECT_LENGTH = 80;
    private static final int HANDLE_LENGTH = 22;
    private static final int CHALLENGE_LENGTH = 43;
    private static final int VERIFIER_SHORTEST = 43;
    private static final int VERIFIER_LONGEST = 128;
    private static final int LONGEST_LIFE = 1000000;
    private static final int LONGEST_TICK = 100000;

    private static final int OK = 200;
    private static final int FOUND = 302;
    private static final int BAD_REQUEST = 400;
    private static final int UNAUTHORIZED = 401;
    private static final int FORBIDDEN = 403;
    private static final int UNAVAILABLE = 503;

    private static final int NO_ERROR = 0;
    private static final int INVALID_REQUEST = 1;
    private static final int ACCESS_DENIED = 3;
    private static final int UNSUPPORTED_RESPONSE_TYPE = 4;
    private static final int INVALID_SCOPE = 5;
    private static final int INVALID_CLIENT = 6;
    private static final int INVALID_GRANT = 7;
    private static final int UNSUPPORTED_GRANT_TYPE = 8;
    private static final int INVALID_TOKEN = 9;
    private static final int INSUFFICIENT_SCOPE = 10;
    private static final int TEMPORARILY_UNAVAILABLE = 11;

    private static final int OF_CODE = 0;
    private static final int OF_ACCESS = 1;
    private static final int OF_REFRESH = 2;

    private static final String BASE64URL = "ABCDEFGHIJKLMNOPQRSTUVWXYZabcdefghijklmnopqrstuvwxyz0123456789-_";
    private static final String HEX = "0123456789ABCDEF";

    private final Text tape = new Text(TAPE_ROOM);
    private final Text out = new Text(OUT_ROOM);
    private final Form form = new Form();
    private final Handles handles = new Handles();
    private final Sha256 sha256 = new Sha256();
    private final ArrayList<Text> scopeWords = new ArrayList<>();
    private final ArrayList<Client> clients = new ArrayList<>();
    private final ArrayList<Request> requests = new ArrayList<>();
    private final ArrayList<Code> codes = new ArrayList<>();
    private final ArrayList<Family> families = new ArrayList<>();
    private final ArrayList<Token> accessTokens = new ArrayList<>();
    private final ArrayList<Token> refreshTokens = new ArrayList<>();
    private int codeLife = 60;
    private int accessLife = 600;
    private int refreshLife = 10000;
    private int now = 0;
    private int lastStatus = 0;
    private int lastError = NO_ERROR;

    public GrantServer() {
    }

    public int feed(int a, int b, int c, int d, int e) {
        if (tape.size() + 20 > TAPE_ROOM) {
            return NONE;
        }
        tape.addInt(a);
        tape.addInt(b);
        tape.addInt(c);
        tape.addInt(d);
        tape.addInt(e);
        return tape.size();
    }

    public boolean end(int n) {
        return tape.cutTo(n);
    }

    public int again(int from, int many) {
        if (from < 0 || many < 0 || many > out.size() || from > out.size() - many) {
            return NONE;
        }
        if (many > TAPE_ROOM - tape.size()) {
            return NONE;
        }
        tape.addPart(out, from, many);
        return tape.size();
    }

    public int scope() throws IllegalArgumentException, UnsupportedOperationException {
        Text word = isScopeWord(tape) ? tape.copyOfPart(0, tape.size()) : null;
        tape.clear();
        if (word == null || scopeOf(word, 0, word.size()) != NONE) {
            throw new IllegalArgumentException("no WORD, or one of a SCOPE");
        }
        if (scopeWords.size() >= MOST_SCOPES) {
            throw new UnsupportedOperationException("there are 8 SCOPES");
        }
        scopeWords.add(word);
        return scopeWords.size() - 1;
    }

    public int client(boolean confidential, int scopes, boolean refresh)
            throws IllegalArgumentException, UnsupportedOperationException {
        Client made = clientOnTape(confidential, scopes, refresh);
        tape.clear();
        if (made == null || !areScopes(scopes) || clientOf(made.id) != null) {
            throw new IllegalArgumentException("no ID and SECRET, no SCOPES, or the ID of a CLIENT");
        }
        if (clients.size() >= MOST_CLIENTS) {
            throw new UnsupportedOperationException("there are 8 CLIENTS");
        }
        clients.add(made);
        return clients.size() - 1;
    }

    public int redirect(int client)
            throws IndexOutOfBoundsException, IllegalArgumentException, UnsupportedOperationException {
        Text made = isRedirect(tape) ? tape.copyOfPart(0, tape.size()) : null;
        tape.clear();
        if (client < 0 || client >= clients.size()) {
            throw new IndexOutOfBoundsException("no such CLIENT");
        }
        if (made == null) {
            throw new IllegalArgumentException("no REDIRECT");
        }
        Client owner = clients.get(client);
        if (owner.redirects.size() >= MOST_REDIRECTS) {
            throw new UnsupportedOperationException("the CLIENT has 3 REDIRECTS");
        }
        owner.redirects.add(made);
        return owner.redirects.size();
    }

    public void lives(int code, int access, int refresh) throws IllegalArgumentException {
        if (!isLife(code) || !isLife(access) || !isLife(refresh)) {
            throw new IllegalArgumentException("a LIFE is 1 to 1000000");
        }
        codeLife = code;
        accessLife = access;
        refreshLife = refresh;
    }

    public int dice(int a, int b, int c, int d) {
        return handles.addDie(a, b, c, d) ? handles.waitingCount() : NONE;
    }

    public int tick(int n) throws IllegalArgumentException {
        if (n < 0 || n > LONGEST_TICK) {
            throw new IllegalArgumentException("NOW goes on by 0 to 100000");
        }
        now += n;
        return now;
    }

    public int authorize() {
        if (!readForm()) {
            return refuse(INVALID_REQUEST);
        }
        Client asker = clientOf(form.clientId.value);
        if (asker == null) {
            return refuse(INVALID_CLIENT);
        }
        Text target = asker.redirectFor(form.redirectUri.value);
        if (target == null) {
            return refuse(INVALID_REQUEST);
        }
        int wanted = scopesTold(asker.scopes);
        int fault = faultOfRequest(asker, wanted);
        if (fault != NO_ERROR) {
            return sendError(fault, target, form.state.value);
        }
        requests.add(new Request(asker, target, wanted, form.codeChallenge.copy(), form.state.copy()));
        answer(OK, NO_ERROR);
        return requests.size() - 1;
    }

    public int consent(int request, int owner, int scopes, boolean yes)
            throws NoSuchElementException, IllegalArgumentException, IllegalStateException {
        if (request < 0 || request >= requests.size() || !requests.get(request).open) {
            throw new NoSuchElementException("no such REQUEST, or it is not open");
        }
        Request asked = requests.get(request);
        if (yes && (scopes == 0 || !isWithin(scopes, asked.scopes))) {
            throw new IllegalArgumentException("yes to none, or to one that the REQUEST has not");
        }
        if (yes && (codes.size() >= MOST_CODES || !handles.canMake(1))) {
            throw new IllegalStateException("no HANDLE, or there are 200 CODES");
        }
        asked.open = false;
        if (!yes) {
            return sendError(ACCESS_DENIED, asked.redirect, asked.state);
        }
        return sendCode(new Code(asked, owner, scopes, now + codeLife));
    }

    public int token() {
        if (!readForm() || !form.grantType.isThere()) {
            return deny(BAD_REQUEST, INVALID_REQUEST);
        }
        Client asker = whoAsks();
        if (asker == null) {
            return deny(UNAUTHORIZED, INVALID_CLIENT);
        }
        if (form.grantType.value.spells("authorization_code")) {
            return redeem(asker);
        }
        if (form.grantType.value.spells("refresh_token")) {
            return turn(asker);
        }
        return deny(BAD_REQUEST, UNSUPPORTED_GRANT_TYPE);
    }

    public int revoke() {
        if (!readForm()) {
            return deny(BAD_REQUEST, INVALID_REQUEST);
        }
        Client asker = whoAsks();
        if (asker == null) {
            return deny(UNAUTHORIZED, INVALID_CLIENT);
        }
        if (!form.token.isThere()) {
            return deny(BAD_REQUEST, INVALID_REQUEST);
        }
        Token refresh = refreshOf(form.token.value);
        if (refresh != null && refresh.family.client == asker.number) {
            refresh.family.takenBack = true;
        }
        Token access = accessOf(form.token.value);
        if (access != null && access.family.client == asker.number) {
            access.spent = true;
        }
        return answer(OK, NO_ERROR);
    }

    public int check(int scope) throws IndexOutOfBoundsException {
        Token shown = accessOf(tape);
        tape.clear();
        if (scope < 0 || scope >= scopeWords.size()) {
            throw new IndexOutOfBoundsException("no such SCOPE");
        }
        if (shown == null || !shown.isGood(now)) {
            answer(UNAUTHORIZED, INVALID_TOKEN);
            return 0;
        }
        if (!isWithin(1 << scope, shown.scopes)) {
            answer(FORBIDDEN, INSUFFICIENT_SCOPE);
            return 0;
        }
        answer(OK, NO_ERROR);
        return shown.family.owner;
    }

    public int status() {
        return lastStatus;
    }

    public int error() {
        return lastError;
    }

    public int out(int i) {
        return out.at(i);
    }

    public int outs() {
        return out.size();
    }

    public int code(int k, int what) throws NoSuchElementException {
        if (k < 0 || k >= codes.size()) {
            throw new NoSuchElementException("no such CODE");
        }
        Code looked = codes.get(k);
        switch (what) {
            case 0: return looked.standing(now);
            case 1: return looked.request.client.number;
            case 2: return looked.owner;
            case 3: return looked.scopes;
            case 4: return looked.family == null ? NONE : looked.family.number;
            default: throw new NoSuchElementException("no such what of a CODE");
        }
    }

    public int family(int k, int what) throws NoSuchElementException {
        if (k < 0 || k >= families.size()) {
            throw new NoSuchElementException("no such FAMILY");
        }
        Family looked = families.get(k);
        switch (what) {
            case 0: return looked.takenBack ? 1 : 0;
            case 1: return looked.client;
            case 2: return looked.owner;
            case 3: return looked.scopes;
            case 4: return goodAccessTokens(k);
            case 5: return looked.turns;
            default: throw new NoSuchElementException("no such what of a FAMILY");
        }
    }

    public int count(int what) {
        switch (what) {
            case 0: return scopeWords.size();
            case 1: return clients.size();
            case 2: return handles.waitingCount();
            case 3: return requests.size();
            case 4: return openRequests();
            case 5: return codes.size();
            case 6: return families.size();
            case 7: return accessTokens.size();
            case 8: return refreshTokens.size();
            case 9: return familiesTakenBack();
            case 10: return now;
            case 11: return tape.size();
            default: return NONE;
        }
    }

    private boolean readForm() {
        boolean good = form.read(tape);
        tape.clear();
        return good;
    }

    // ---- SCOPES and CLIENTS ----

    private static boolean isScopeWord(Text text) {
        return text.isVisible(WORD_LENGTH) && !text.has('"') && !text.has('\\');
    }

    private static boolean isRedirect(Text text) {
        return text.isVisible(REDIRECT_LENGTH) && !text.has('#');
    }

    private static boolean isLife(int life) {
        return life >= 1 && life <= LONGEST_LIFE;
    }

    private static boolean isWithin(int some, int all) {
        return (some & ~all) == 0;
    }

    private boolean areScopes(int bits) {
        return isWithin(bits, (1 << scopeWords.size()) - 1);
    }

    private int scopeOf(Text text, int from, int many) {
        for (int k = 0; k < scopeWords.size(); k++) {
            if (text.isPart(from, many, scopeWords.get(k))) {
                return k;
            }
        }
        return NONE;
    }

    /** The SCOPES of the FORM's scope, those given if it has none, NONE if it has an unknown WORD. */
    private int scopesTold(int without) {
        if (!form.scope.isThere()) {
            return without;
        }
        Text told = form.scope.value;
        int bits = 0;
        int start = 0;
        for (int i = 0; i <= told.size(); i++) {
            if (i < told.size() && told.at(i) != ' ') {
                continue;
            }
            int k = scopeOf(told, start, i - start);
            if (k == NONE && i > start) {
                return NONE;
            }
            bits |= k == NONE ? 0 : 1 << k;
            start = i + 1;
        }
        return bits;
    }

    private Client clientOnTape(boolean confidential, int scopes, boolean refresh) {
        int idLength = confidential ? tape.indexOf(0, 0, tape.size()) : tape.size();
        Text id = tape.copyOfPart(0, idLength);
        Text secret = tape.copyOfPart(idLength + 1, tape.size() - idLength - 1);
        if (!id.isVisible(ID_LENGTH) || confidential && !secret.isVisible(ID_LENGTH)) {
            return null;
        }
        return new Client(clients.size(), id, confidential ? secret : null, scopes, refresh);
    }

    private Client clientOf(Text id) {
        for (int k = 0; k < clients.size(); k++) {
            if (id.same(clients.get(k).id)) {
                return clients.get(k);
            }
        }
        return null;
    }

    /** The CLIENT that the FORM is from, null if it does not prove to be one. */
    private Client whoAsks() {
        Client asker = clientOf(form.clientId.value);
        return asker != null && asker.isShownBy(form.clientSecret) ? asker : null;
    }

    // ---- authorize() and consent() ----

    private int faultOfRequest(Client asker, int wanted) {
        if (!form.responseType.isThere()) {
            return INVALID_REQUEST;
        }
        if (!form.responseType.value.spells("code")) {
            return UNSUPPORTED_RESPONSE_TYPE;
        }
        if (!isChallenge(form.codeChallenge.value) || !form.codeChallengeMethod.value.spells("S256")) {
            return INVALID_REQUEST;
        }
        if (wanted == NONE || !isWithin(wanted, asker.scopes)) {
            return INVALID_SCOPE;
        }
        if (!form.scope.isThere() && asker.scopes == 0) {
            return INVALID_SCOPE;
        }
        return requests.size() >= MOST_REQUESTS ? TEMPORARILY_UNAVAILABLE : NO_ERROR;
    }

    private static boolean isChallenge(Text text) {
        return text.size() == CHALLENGE_LENGTH && text.isUnreservedAll() && !text.has('.') && !text.has('~');
    }

    private int sendError(int error, Text target, Text state) {
        answer(FOUND, error);
        startLocation(target);
        out.addWord("error=");
        out.addWord(wordOf(error));
        endLocation(state);
        return NONE;
    }

    private int sendCode(Code made) {
        answer(FOUND, NO_ERROR);
        startLocation(made.request.redirect);
        out.addWord("code=");
        handles.make(OF_CODE, codes.size(), out);
        endLocation(made.request.state);
        codes.add(made);
        return codes.size() - 1;
    }

    private void startLocation(Text target) {
        out.addPart(target, 0, target.size());
        out.add(target.has('?') ? '&' : '?');
    }

    private void endLocation(Text state) {
        if (state.size() > 0) {
            out.addWord("&state=");
            out.addEscaped(state);
        }
    }

    // ---- token() ----

    private int redeem(Client asker) {
        if (!form.code.isThere() || !form.redirectUri.isThere() || !isVerifier(form.codeVerifier.value)) {
            return deny(BAD_REQUEST, INVALID_REQUEST);
        }
        Code shown = codeOf(form.code.value);
        if (shown == null || shown.request.client.number != asker.number) {
            return deny(BAD_REQUEST, INVALID_GRANT);
        }
        if (shown.family != null) {
            shown.family.takenBack = true;
            return deny(BAD_REQUEST, INVALID_GRANT);
        }
        if (now >= shown.end || !form.redirectUri.value.same(shown.request.redirect)
                || !sha256.signs(form.codeVerifier.value).same(shown.request.challenge)) {
            return deny(BAD_REQUEST, INVALID_GRANT);
        }
        if (!canGiveTokens(asker.mayRefresh)) {
            return deny(UNAVAILABLE, TEMPORARILY_UNAVAILABLE);
        }
        Family made = new Family(families.size(), asker.number, shown.owner, shown.scopes);
        families.add(made);
        shown.family = made;
        return giveTokens(made, made.scopes, asker.mayRefresh);
    }

    private int turn(Client asker) {
        if (!form.refreshToken.isThere()) {
            return deny(BAD_REQUEST, INVALID_REQUEST);
        }
        Token shown = refreshOf(form.refreshToken.value);
        if (shown == null || shown.family.client != asker.number || shown.family.takenBack) {
            return deny(BAD_REQUEST, INVALID_GRANT);
        }
        if (shown.spent) {
            shown.family.takenBack = true;
            return deny(BAD_REQUEST, INVALID_GRANT);
        }
        if (now >= shown.end) {
            return deny(BAD_REQUEST, INVALID_GRANT);
        }
        int wanted = scopesTold(shown.family.scopes);
        if (wanted == NONE || !isWithin(wanted, shown.family.scopes)) {
            return deny(BAD_REQUEST, INVALID_SCOPE);
        }
        if (!canGiveTokens(true)) {
            return deny(UNAVAILABLE, TEMPORARILY_UNAVAILABLE);
        }
        shown.spent = true;
        shown.family.turns++;
        return giveTokens(shown.family, wanted, true);
    }

    private static boolean isVerifier(Text text) {
        return text.size() >= VERIFIER_SHORTEST && text.size() <= VERIFIER_LONGEST && text.isUnreservedAll();
    }

    private boolean canGiveTokens(boolean withRefresh) {
        if (accessTokens.size() >= MOST_ACCESS || withRefresh && refreshTokens.size() >= MOST_REFRESH) {
            return false;
        }
        return handles.canMake(withRefresh ? 2 : 1);
    }

    private int giveTokens(Family family, int scopes, boolean withRefresh) {
        answer(OK, NO_ERROR);
        out.addWord("{\"access_token\":\"");
        handles.make(OF_ACCESS, accessTokens.size(), out);
        accessTokens.add(new Token(family, scopes, now + accessLife));
        out.addWord("\",\"token_type\":\"Bearer\",\"expires_in\":");
        out.addNumber(accessLife);
        if (withRefresh) {
            out.addWord(",\"refresh_token\":\"");
            handles.make(OF_REFRESH, refreshTokens.size(), out);
            refreshTokens.add(new Token(family, scopes, now + refreshLife));
            out.add('"');
        }
        out.addWord(",\"scope\":\"");
        addScopeWords(scopes);
        out.addWord("\"}");
        return lastStatus;
    }

    private void addScopeWords(int scopes) {
        boolean first = true;
        for (int k = 0; k < scopeWords.size(); k++) {
            if (isWithin(1 << k, scopes)) {
                if (!first) {
                    out.add(' ');
                }
                out.addPart(scopeWords.get(k), 0, scopeWords.get(k).size());
                first = false;
            }
        }
    }

    // ---- what HANDLES stand for ----

    private Code codeOf(Text handle) {
        int k = handles.find(OF_CODE, handle);
        return k >= 0 && k < codes.size() ? codes.get(k) : null;
    }

    private Token accessOf(Text handle) {
        int k = handles.find(OF_ACCESS, handle);
        return k >= 0 && k < accessTokens.size() ? accessTokens.get(k) : null;
    }

    private Token refreshOf(Text handle) {
        int k = handles.find(OF_REFRESH, handle);
        return k >= 0 && k < refreshTokens.size() ? refreshTokens.get(k) : null;
    }

    // ---- counts ----

    private int goodAccessTokens(int family) {
        int good = 0;
        for (int k = 0; k < accessTokens.size(); k++) {
            Token looked = accessTokens.get(k);
            if (looked.family.number == family && looked.isGood(now)) {
                good++;
            }
        }
        return good;
    }

    private int openRequests() {
        int open = 0;
        for (int k = 0; k < requests.size(); k++) {
            open += requests.get(k).open ? 1 : 0;
        }
        return open;
    }

    private int familiesTakenBack() {
        int taken = 0;
        for (int k = 0; k < families.size(); k++) {
            taken += families.get(k).takenBack ? 1 : 0;
        }
        return taken;
    }

    // ---- answers ----

    private int answer(int status, int error) {
        lastStatus = status;
        lastError = error;
        out.clear();
        return status;
    }

    /** An error of authorize() that no REDIRECT may be told. */
    private int refuse(int error) {
        answer(BAD_REQUEST, error);
        return NONE;
    }

    private int deny(int status, int error) {
        answer(status, error);
        out.addWord("{\"error\":\"");
        out.addWord(wordOf(error));
        out.addWord("\"}");
        return status;
    }

    private static String wordOf(int error) {
        switch (error) {
            case INVALID_REQUEST: return "invalid_request";
            case ACCESS_DENIED: return "access_denied";
            case UNSUPPORTED_RESPONSE_TYPE: return "unsupported_response_type";
            case INVALID_SCOPE: return "invalid_scope";
            case INVALID_CLIENT: return "invalid_client";
            case INVALID_GRANT: return "invalid_grant";
            case UNSUPPORTED_GRANT_TYPE: return "unsupported_grant_type";
            case INVALID_TOKEN: return "invalid_token";
            case INSUFFICIENT_SCOPE: return "insufficient_scope";
            case TEMPORARILY_UNAVAILABLE: return "temporarily_unavailable";
            default: return "";
        }
    }

    // ---- kinds of bytes ----

    private static boolean isVisibleByte(int b) {
        return b >= 33 && b <= 126;
    }

    private static boolean isUnreserved(int b) {
        return b >= 'A' && b <= 'Z' || b >= 'a' && b <= 'z' || b >= '0' && b <= '9'
                || b == '-' || b == '.' || b == '_' || b == '~';
    }

    private static int hexDigit(int b) {
        if (b >= '0' && b <= '9') {
            return b - '0';
        }
        if (b >= 'A' && b <= 'F') {
            return b - 'A' + 10;
        }
        return b >= 'a' && b <= 'f' ? b - 'a' + 10 : NONE;
    }

    /** Bytes in a row that is made once; a part of another's row where two share one. */
    private static final class Text {
        private final byte[] row;
        private int start = 0;
        private int size = 0;

        Text(int room) {
            row = new byte[Math.max(room, 0)];
        }

        Text(Text shared) {
            row = shared.row;
        }

        int size() {
            return size;
        }

        int at(int i) {
            if (i < 0 || i >= size || start + i >= row.length) {
                return NONE;
            }
            return row[start + i] & 255;
        }

        void clear() {
            size = 0;
        }

        boolean cutTo(int length) {
            if (length < 0 || length > size) {
                return false;
            }
            size = length;
            return true;
        }

        /** Shows, of the row that is shared, what that Text has from a place on. */
        void showEnd(Text shared, int from) {
            start = from;
            size = shared.size - from;
        }

        void add(int b) {
            if (start + size < row.length) {
                row[start + size] = (byte) b;
                size++;
            }
        }

        void addInt(int number) {
            add(number >>> 24);
            add(number >>> 16);
            add(number >>> 8);
            add(number);
        }

        void addPart(Text other, int from, int many) {
            for (int i = from; i < from + many && i < other.size; i++) {
                add(other.at(i));
            }
        }

        void addWord(String word) {
            for (int i = 0; i < word.length(); i++) {
                add(word.charAt(i));
            }
        }

        /** A number of 1 to 9999999, in decimal signs. */
        void addNumber(int number) {
            for (int unit = 1000000; unit > 0; unit /= 10) {
                if (number >= unit) {
                    add('0' + number / unit % 10);
                }
            }
        }

        void addEscaped(Text other) {
            for (int i = 0; i < other.size; i++) {
                int b = other.at(i);
                if (isUnreserved(b)) {
                    add(b);
                } else {
                    add('%');
                    add(HEX.charAt(b >> 4 & 15));
                    add(HEX.charAt(b & 15));
                }
            }
        }

        /** The bytes of the numbers, the highest first, in signs of base64url. */
        void addBase64(int[] numbers) {
            int bits = numbers.length * 32;
            for (int bit = 0; bit < bits; bit += 6) {
                int k = bit / 32;
                long high = numbers[k] & 0xffffffffL;
                long low = k + 1 < numbers.length ? numbers[k + 1] & 0xffffffffL : 0;
                long both = high << 32 | low;
                add(BASE64URL.charAt((int) (both >>> 58 - bit % 32) & 63));
            }
        }

        Text copyOfPart(int from, int many) {
            Text copy = new Text(Math.min(many, size));
            copy.addPart(this, from, many);
            return copy;
        }

        boolean same(Text other) {
            return isPart(0, size, other);
        }

        boolean isPart(int from, int many, Text other) {
            if (many != other.size) {
                return false;
            }
            for (int i = 0; i < many; i++) {
                if (at(from + i) != other.at(i)) {
                    return false;
                }
            }
            return true;
        }

        boolean spells(String word) {
            if (size != word.length()) {
                return false;
            }
            for (int i = 0; i < size; i++) {
                if (at(i) != word.charAt(i)) {
                    return false;
                }
            }
            return true;
        }

        /** Whether it has 1 to so many bytes, all of 33 to 126. */
        boolean isVisible(int most) {
            if (size < 1 || size > most) {
                return false;
            }
            for (int i = 0; i < size; i++) {
                if (!isVisibleByte(at(i))) {
                    return false;
                }
            }
            return true;
        }

        boolean isUnreservedAll() {
            for (int i = 0; i < size; i++) {
                if (!isUnreserved(at(i))) {
                    return false;
                }
            }
            return true;
        }

        boolean has(int b) {
            return indexOf(b, 0, size) < size;
        }

        /** Where a byte is first, from one place on and ahead of another; that other one if nowhere. */
        int indexOf(int b, int from, int end) {
            for (int i = from; i < end; i++) {
                if (at(i) == b) {
                    return i;
                }
            }
            return end;
        }
    }

    /** A NAME that counts, and what the latest FORM has for it. */
    private static final class Field {
        private final String name;
        private final Text value;
        private boolean told = false;

        Field(String name, Text decoded) {
            this.name = name;
            this.value = new Text(decoded);
        }

        boolean isThere() {
            return value.size() > 0;
        }

        Text copy() {
            return value.copyOfPart(0, value.size());
        }

        void forget() {
            told = false;
            value.clear();
        }
    }

    /** The FORM that was read last: its VALUES stand decoded in one row. */
    private static final class Form {
        private final Text decoded = new Text(TAPE_ROOM);
        private final Text name = new Text(decoded);
        private final Field responseType = new Field("response_type", decoded);
        private final Field clientId = new Field("client_id", decoded);
        private final Field redirectUri = new Field("redirect_uri", decoded);
        private final Field scope = new Field("scope", decoded);
        private final Field state = new Field("state", decoded);
        private final Field codeChallenge = new Field("code_challenge", decoded);
        private final Field codeChallengeMethod = new Field("code_challenge_method", decoded);
        private final Field grantType = new Field("grant_type", decoded);
        private final Field code = new Field("code", decoded);
        private final Field codeVerifier = new Field("code_verifier", decoded);
        private final Field clientSecret = new Field("client_secret", decoded);
        private final Field refreshToken = new Field("refresh_token", decoded);
        private final Field token = new Field("token", decoded);
        private final ArrayList<Field> fields = new ArrayList<>();

        Form() {
            fields.add(responseType);
            fields.add(clientId);
            fields.add(redirectUri);
            fields.add(scope);
            fields.add(state);
            fields.add(codeChallenge);
            fields.add(codeChallengeMethod);
            fields.add(grantType);
            fields.add(code);
            fields.add(codeVerifier);
            fields.add(clientSecret);
            fields.add(refreshToken);
            fields.add(token);
        }

        /** False if it is BAD. */
        boolean read(Text tape) {
            forget();
            int pieces = 0;
            int start = 0;
            for (int i = 0; i <= tape.size(); i++) {
                if (i < tape.size() && tape.at(i) != '&') {
                    continue;
                }
                if (i > start) {
                    pieces++;
                    if (pieces > MOST_PIECES || !readPiece(tape, start, i)) {
                        return false;
                    }
                }
                start = i + 1;
            }
            return true;
        }

        private void forget() {
            decoded.clear();
            for (int k = 0; k < fields.size(); k++) {
                fields.get(k).forget();
            }
        }

        private boolean readPiece(Text tape, int start, int end) {
            int equals = tape.indexOf('=', start, end);
            int nameStart = decoded.size();
            if (!decode(tape, start, equals)) {
                return false;
            }
            name.showEnd(decoded, nameStart);
            int valueStart = decoded.size();
            if (!decode(tape, equals + 1, end)) {
                return false;
            }
            Field named = fieldOf(name);
            if (named == null) {
                return true;
            }
            if (named.told) {
                return false;
            }
            named.told = true;
            named.value.showEnd(decoded, valueStart);
            return true;
        }

        private boolean decode(Text tape, int start, int end) {
            for (int i = start; i < end; i++) {
                int b = tape.at(i);
                if (b == '%') {
                    // What follows a part is & or = or nothing, no digit, so this stays within the part.
                    int high = hexDigit(tape.at(i + 1));
                    int low = hexDigit(tape.at(i + 2));
                    if (high == NONE || low == NONE) {
                        return false;
                    }
                    decoded.add(high * 16 + low);
                    i += 2;
                } else if (isVisibleByte(b)) {
                    decoded.add(b == '+' ? ' ' : b);
                } else {
                    return false;
                }
            }
            return true;
        }

        private Field fieldOf(Text text) {
            for (int k = 0; k < fields.size(); k++) {
                if (text.spells(fields.get(k).name)) {
                    return fields.get(k);
                }
            }
            return null;
        }
    }

    private static final class Client {
        private final int number;
        private final Text id;
        // Null of a PUBLIC one.
        private final Text secret;
        private final int scopes;
        private final boolean mayRefresh;
        private final ArrayList<Text> redirects = new ArrayList<>();

        Client(int number, Text id, Text secret, int scopes, boolean mayRefresh) {
            this.number = number;
            this.id = id;
            this.secret = secret;
            this.scopes = scopes;
            this.mayRefresh = mayRefresh;
        }

        boolean isShownBy(Field shown) {
            return secret == null ? !shown.isThere() : secret.same(shown.value);
        }

        /** The REDIRECT that is told, its only one if none is told, or null. */
        Text redirectFor(Text told) {
            if (told.size() == 0) {
                return redirects.size() == 1 ? redirects.get(0) : null;
            }
            for (int k = 0; k < redirects.size(); k++) {
                if (told.same(redirects.get(k))) {
                    return redirects.get(k);
                }
            }
            return null;
        }
    }

    private static final class Request {
        private final Client client;
        private final Text redirect;
        private final int scopes;
        private final Text challenge;
        private final Text state;
        private boolean open = true;

        Request(Client client, Text redirect, int scopes, Text challenge, Text state) {
            this.client = client;
            this.redirect = redirect;
            this.scopes = scopes;
            this.challenge = challenge;
            this.state = state;
        }
    }

    private static final class Code {
        private final Request request;
        private final int owner;
        private final int scopes;
        private final int end;
        // Null until it is redeemed.
        private Family family = null;

        Code(Request request, int owner, int scopes, int end) {
            this.request = request;
            this.owner = owner;
            this.scopes = scopes;
            this.end = end;
        }

        int standing(int now) {
            if (family != null) {
                return 1;
            }
            return now < end ? 0 : 2;
        }
    }

    private static final class Family {
        private final int number;
        private final int client;
        private final int owner;
        private final int scopes;
        private boolean takenBack = false;
        private int turns = 0;

        Family(int number, int client, int owner, int scopes) {
            this.number = number;
            this.client = client;
            this.owner = owner;
            this.scopes = scopes;
        }
    }

    /** An ACCESS token, spent when it is REVOKED, or a REFRESH token, spent when it has TURNED. */
    private static final class Token {
        private final Family family;
        private final int scopes;
        private final int end;
        private boolean spent = false;

        Token(Family family, int scopes, int end) {
            this.family = family;
            this.scopes = scopes;
            this.end = end;
        }

        boolean isGood(int now) {
            return now < end && !spent && !family.takenBack;
        }
    }

    /** A number of the DICE; when a HANDLE is made of it, it gets what that stands for. */
    private static final class Handle {
        private final int[] numbers = new int[4];
        private final Text signs = new Text(HANDLE_LENGTH);
        private int kind = NONE;
        private int number = NONE;

        Handle(int a, int b, int c, int d) {
            numbers[0] = a;
            numbers[1] = b;
            numbers[2] = c;
            numbers[3] = d;
            signs.addBase64(numbers);
        }

        boolean isOf(Handle other) {
            return numbers[0] == other.numbers[0] && numbers[1] == other.numbers[1]
                    && numbers[2] == other.numbers[2] && numbers[3] == other.numbers[3];
        }
    }

    /** The DICE that wait, and the HANDLES that were made of such. */
    private static final class Handles {
        private final ArrayList<Handle> waiting = new ArrayList<>();
        private final ArrayList<Handle> made = new ArrayList<>();

        int waitingCount() {
            return waiting.size();
        }

        boolean addDie(int a, int b, int c, int d) {
            if (waiting.size() >= MOST_DICE) {
                return false;
            }
            waiting.add(new Handle(a, b, c, d));
            return true;
        }

        boolean canMake(int many) {
            int fresh = 0;
            for (int i = 0; i < waiting.size() && fresh < many; i++) {
                Handle die = waiting.get(i);
                if (isAhead(die, made, made.size()) || isAhead(die, waiting, i)) {
                    continue;
                }
                fresh++;
            }
            return fresh >= many;
        }

        private static boolean isAhead(Handle die, ArrayList<Handle> handles, int end) {
            for (int i = 0; i < end && i < handles.size(); i++) {
                if (die.isOf(handles.get(i))) {
                    return true;
                }
            }
            return false;
        }

        /** Makes a HANDLE for what has that number among its kind, and writes it. */
        void make(int kind, int number, Text to) {
            int most = waiting.size();
            for (int i = 0; i < most && !waiting.isEmpty(); i++) {
                Handle die = waiting.remove(0);
                if (!isAhead(die, made, made.size())) {
                    die.kind = kind;
                    die.number = number;
                    made.add(die);
                    to.addPart(die.signs, 0, die.signs.size());
                    return;
                }
            }
        }

        /** The number of what a HANDLE of that kind stands for, NONE if it is none. */
        int find(int kind, Text signs) {
            for (int i = 0; i < made.size(); i++) {
                Handle looked = made.get(i);
                if (looked.kind == kind && looked.signs.same(signs)) {
                    return looked.number;
                }
            }
            return NONE;
        }
    }

    /** SHA-256 (FIPS 180-4) of a verifier, in base64url. */
    private static final class Sha256 {
        private static final int[] START = {
            0x6a09e667, 0xbb67ae85, 0x3c6ef372, 0xa54ff53a, 0x510e527f, 0x9b05688c, 0x1f83d9ab, 0x5be0cd19
        };
        private static final int[] ROUNDS = {
            0x428a2f98, 0x71374491, 0xb5c0fbcf, 0xe9b5dba5, 0x3956c25b, 0x59f111f1, 0x923f82a4, 0xab1c5ed5,
            0xd807aa98, 0x12835b01, 0x243185be, 0x550c7dc3, 0x72be5d74, 0x80deb1fe, 0x9bdc06a7, 0xc19bf174,
            0xe49b69c1, 0xefbe4786, 0x0fc19dc6, 0x240ca1cc, 0x2de92c6f, 0x4a7484aa, 0x5cb0a9dc, 0x76f988da,
            0x983e5152, 0xa831c66d, 0xb00327c8, 0xbf597fc7, 0xc6e00bf3, 0xd5a79147, 0x06ca6351, 0x14292967,
            0x27b70a85, 0x2e1b2138, 0x4d2c6dfc, 0x53380d13, 0x650a7354, 0x766a0abb, 0x81c2c92e, 0x92722c85,
            0xa2bfe8a1, 0xa81a664b, 0xc24b8b70, 0xc76c51a3, 0xd192e819, 0xd6990624, 0xf40e3585, 0x106aa070,
            0x19a4c116, 0x1e376c08, 0x2748774c, 0x34b0bcb5, 0x391c0cb3, 0x4ed8aa4a, 0x5b9cca4f, 0x682e6ff3,
            0x748f82ee, 0x78a5636f, 0x84c87814, 0x8cc70208, 0x90befffa, 0xa4506ceb, 0xbef9a3f7, 0xc67178f2
        };
        private final int[] hash = new int[8];
        private final int[] schedule = new int[64];
        private final Text signs = new Text(CHALLENGE_LENGTH);

        Text signs(Text message) {
            System.arraycopy(START, 0, hash, 0, 8);
            int blocks = (message.size() + 8) / 64 + 1;
            for (int block = 0; block < blocks; block++) {
                fillSchedule(message, block * 64, blocks * 64);
                mixBlock();
            }
            signs.clear();
            signs.addBase64(hash);
            return signs;
        }

        private void fillSchedule(Text message, int from, int total) {
            for (int t = 0; t < 16; t++) {
                int word = 0;
                for (int i = 0; i < 4; i++) {
                    word = word << 8 | padded(message, from + t * 4 + i, total);
                }
                schedule[t] = word;
            }
            for (int t = 16; t < 64; t++) {
                int a = schedule[t - 15];
                int b = schedule[t - 2];
                int fromA = rotate(a, 7) ^ rotate(a, 18) ^ a >>> 3;
                int fromB = rotate(b, 17) ^ rotate(b, 19) ^ b >>> 10;
                schedule[t] = fromB + schedule[t - 7] + fromA + schedule[t - 16];
            }
        }

        private static int padded(Text message, int i, int total) {
            if (i < message.size()) {
                return message.at(i);
            }
            if (i == message.size()) {
                return 128;
            }
            // The length's upper four bytes are 0: no TAPE is that long.
            return i < total - 4 ? 0 : message.size() * 8 >>> (total - 1 - i) * 8 & 255;
        }

        private void mixBlock() {
            int a = hash[0];
            int b = hash[1];
            int c = hash[2];
            int d = hash[3];
            int e = hash[4];
            int f = hash[5];
            int g = hash[6];
            int h = hash[7];
            for (int t = 0; t < 64; t++) {
                int fromE = rotate(e, 6) ^ rotate(e, 11) ^ rotate(e, 25);
                int first = h + fromE + (e & f ^ ~e & g) + ROUNDS[t] + schedule[t];
                int fromA = rotate(a, 2) ^ rotate(a, 13) ^ rotate(a, 22);
                int second = fromA + (a & b ^ a & c ^ b & c);
                h = g;
                g = f;
                f = e;
                e = d + first;
                d = c;
                c = b;
                b = a;
                a = first + second;
            }
            hash[0] += a;
            hash[1] += b;
            hash[2] += c;
            hash[3] += d;
            hash[4] += e;
            hash[5] += f;
            hash[6] += g;
            hash[7] += h;
        }

        private static int rotate(int number, int places) {
            return number >>> places | number << 32 - places;
        }
    }
}
