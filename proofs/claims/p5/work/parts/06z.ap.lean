/-- two parts of a world ('++' with its parts' types known) -/
abbrev xs_ap (a b : va_W) : va_W := a ++ b
