/**
 * A sentence of the document, in its own words, with the test that fails when it is broken. The
 * name begins with the part of the document where it stands, "what it is", "terms" or
 * "promise 1" and so on.
 */
record Sentence(String name, String words, Runnable test) {
    String part() {
        return name.substring(0, name.indexOf(':'));
    }
}
