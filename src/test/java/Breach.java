/** A place where a class does not keep to LANGUAGE.md: the rule's number, its words, and what. */
record Breach(int rule, String words, long line, String what) {
    @Override
    public String toString() {
        return "LANGUAGE.md, rule " + rule + " '" + words + "', line " + line + ": " + what;
    }
}
