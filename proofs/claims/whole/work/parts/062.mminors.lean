-- laid by wip/whole/gen
def z5_mw0 (_ : Nat → Int64) : Int64 := 1
def z5_mm1 (_ : Nat → Int64) (fd : Nat → Int64) : Nat → Int64 := vp_updL fd 0 1
def z5_mw1 (fr : Nat → Int64) : Int64 := 0 + ((fr 0) * (z5_mw0 fr))
def z5_mm2 (fr : Nat → Int64) (fd : Nat → Int64) : Nat → Int64 := vp_updL (z5_mm1 fr fd) 1 (z5_mw1 fr)
def z5_mw2 (fr : Nat → Int64) : Int64 := 0 + ((fr 1) * (z5_mw0 fr))
def z5_mm3 (fr : Nat → Int64) (fd : Nat → Int64) : Nat → Int64 := vp_updL (z5_mm2 fr fd) 2 (z5_mw2 fr)
def z5_mw3 (fr : Nat → Int64) : Int64 := (0 + (-((fr 6) * (z5_mw2 fr)))) + ((fr 7) * (z5_mw1 fr))
def z5_mm4 (fr : Nat → Int64) (fd : Nat → Int64) : Nat → Int64 := vp_updL (z5_mm3 fr fd) 3 (z5_mw3 fr)
def z5_mw4 (fr : Nat → Int64) : Int64 := 0 + ((fr 2) * (z5_mw0 fr))
def z5_mm5 (fr : Nat → Int64) (fd : Nat → Int64) : Nat → Int64 := vp_updL (z5_mm4 fr fd) 4 (z5_mw4 fr)
def z5_mw5 (fr : Nat → Int64) : Int64 := (0 + (-((fr 6) * (z5_mw4 fr)))) + ((fr 8) * (z5_mw1 fr))
def z5_mm6 (fr : Nat → Int64) (fd : Nat → Int64) : Nat → Int64 := vp_updL (z5_mm5 fr fd) 5 (z5_mw5 fr)
def z5_mw6 (fr : Nat → Int64) : Int64 := (0 + (-((fr 7) * (z5_mw4 fr)))) + ((fr 8) * (z5_mw2 fr))
def z5_mm7 (fr : Nat → Int64) (fd : Nat → Int64) : Nat → Int64 := vp_updL (z5_mm6 fr fd) 6 (z5_mw6 fr)
def z5_mw7 (fr : Nat → Int64) : Int64 := ((0 + ((fr 12) * (z5_mw6 fr))) + (-((fr 13) * (z5_mw5 fr)))) + ((fr 14) * (z5_mw3 fr))
def z5_mm8 (fr : Nat → Int64) (fd : Nat → Int64) : Nat → Int64 := vp_updL (z5_mm7 fr fd) 7 (z5_mw7 fr)
def z5_mw8 (fr : Nat → Int64) : Int64 := 0 + ((fr 3) * (z5_mw0 fr))
def z5_mm9 (fr : Nat → Int64) (fd : Nat → Int64) : Nat → Int64 := vp_updL (z5_mm8 fr fd) 8 (z5_mw8 fr)
def z5_mw9 (fr : Nat → Int64) : Int64 := (0 + (-((fr 6) * (z5_mw8 fr)))) + ((fr 9) * (z5_mw1 fr))
def z5_mm10 (fr : Nat → Int64) (fd : Nat → Int64) : Nat → Int64 := vp_updL (z5_mm9 fr fd) 9 (z5_mw9 fr)
def z5_mw10 (fr : Nat → Int64) : Int64 := (0 + (-((fr 7) * (z5_mw8 fr)))) + ((fr 9) * (z5_mw2 fr))
def z5_mm11 (fr : Nat → Int64) (fd : Nat → Int64) : Nat → Int64 := vp_updL (z5_mm10 fr fd) 10 (z5_mw10 fr)
def z5_mw11 (fr : Nat → Int64) : Int64 := ((0 + ((fr 12) * (z5_mw10 fr))) + (-((fr 13) * (z5_mw9 fr)))) + ((fr 15) * (z5_mw3 fr))
def z5_mm12 (fr : Nat → Int64) (fd : Nat → Int64) : Nat → Int64 := vp_updL (z5_mm11 fr fd) 11 (z5_mw11 fr)
def z5_mw12 (fr : Nat → Int64) : Int64 := (0 + (-((fr 8) * (z5_mw8 fr)))) + ((fr 9) * (z5_mw4 fr))
def z5_mm13 (fr : Nat → Int64) (fd : Nat → Int64) : Nat → Int64 := vp_updL (z5_mm12 fr fd) 12 (z5_mw12 fr)
def z5_mw13 (fr : Nat → Int64) : Int64 := ((0 + ((fr 12) * (z5_mw12 fr))) + (-((fr 14) * (z5_mw9 fr)))) + ((fr 15) * (z5_mw5 fr))
def z5_mm14 (fr : Nat → Int64) (fd : Nat → Int64) : Nat → Int64 := vp_updL (z5_mm13 fr fd) 13 (z5_mw13 fr)
def z5_mw14 (fr : Nat → Int64) : Int64 := ((0 + ((fr 13) * (z5_mw12 fr))) + (-((fr 14) * (z5_mw10 fr)))) + ((fr 15) * (z5_mw6 fr))
def z5_mm15 (fr : Nat → Int64) (fd : Nat → Int64) : Nat → Int64 := vp_updL (z5_mm14 fr fd) 14 (z5_mw14 fr)
def z5_mw15 (fr : Nat → Int64) : Int64 := (((0 + (-((fr 18) * (z5_mw14 fr)))) + ((fr 19) * (z5_mw13 fr))) + (-((fr 20) * (z5_mw11 fr)))) + ((fr 21) * (z5_mw7 fr))
def z5_mm16 (fr : Nat → Int64) (fd : Nat → Int64) : Nat → Int64 := vp_updL (z5_mm15 fr fd) 15 (z5_mw15 fr)
def z5_mw16 (fr : Nat → Int64) : Int64 := 0 + ((fr 4) * (z5_mw0 fr))
def z5_mm17 (fr : Nat → Int64) (fd : Nat → Int64) : Nat → Int64 := vp_updL (z5_mm16 fr fd) 16 (z5_mw16 fr)
def z5_mw17 (fr : Nat → Int64) : Int64 := (0 + (-((fr 6) * (z5_mw16 fr)))) + ((fr 10) * (z5_mw1 fr))
def z5_mm18 (fr : Nat → Int64) (fd : Nat → Int64) : Nat → Int64 := vp_updL (z5_mm17 fr fd) 17 (z5_mw17 fr)
def z5_mw18 (fr : Nat → Int64) : Int64 := (0 + (-((fr 7) * (z5_mw16 fr)))) + ((fr 10) * (z5_mw2 fr))
def z5_mm19 (fr : Nat → Int64) (fd : Nat → Int64) : Nat → Int64 := vp_updL (z5_mm18 fr fd) 18 (z5_mw18 fr)
def z5_mw19 (fr : Nat → Int64) : Int64 := ((0 + ((fr 12) * (z5_mw18 fr))) + (-((fr 13) * (z5_mw17 fr)))) + ((fr 16) * (z5_mw3 fr))
def z5_mm20 (fr : Nat → Int64) (fd : Nat → Int64) : Nat → Int64 := vp_updL (z5_mm19 fr fd) 19 (z5_mw19 fr)
def z5_mw20 (fr : Nat → Int64) : Int64 := (0 + (-((fr 8) * (z5_mw16 fr)))) + ((fr 10) * (z5_mw4 fr))
def z5_mm21 (fr : Nat → Int64) (fd : Nat → Int64) : Nat → Int64 := vp_updL (z5_mm20 fr fd) 20 (z5_mw20 fr)
def z5_mw21 (fr : Nat → Int64) : Int64 := ((0 + ((fr 12) * (z5_mw20 fr))) + (-((fr 14) * (z5_mw17 fr)))) + ((fr 16) * (z5_mw5 fr))
def z5_mm22 (fr : Nat → Int64) (fd : Nat → Int64) : Nat → Int64 := vp_updL (z5_mm21 fr fd) 21 (z5_mw21 fr)
def z5_mw22 (fr : Nat → Int64) : Int64 := ((0 + ((fr 13) * (z5_mw20 fr))) + (-((fr 14) * (z5_mw18 fr)))) + ((fr 16) * (z5_mw6 fr))
def z5_mm23 (fr : Nat → Int64) (fd : Nat → Int64) : Nat → Int64 := vp_updL (z5_mm22 fr fd) 22 (z5_mw22 fr)
def z5_mw23 (fr : Nat → Int64) : Int64 := (((0 + (-((fr 18) * (z5_mw22 fr)))) + ((fr 19) * (z5_mw21 fr))) + (-((fr 20) * (z5_mw19 fr)))) + ((fr 22) * (z5_mw7 fr))
def z5_mm24 (fr : Nat → Int64) (fd : Nat → Int64) : Nat → Int64 := vp_updL (z5_mm23 fr fd) 23 (z5_mw23 fr)
def z5_mw24 (fr : Nat → Int64) : Int64 := (0 + (-((fr 9) * (z5_mw16 fr)))) + ((fr 10) * (z5_mw8 fr))
def z5_mm25 (fr : Nat → Int64) (fd : Nat → Int64) : Nat → Int64 := vp_updL (z5_mm24 fr fd) 24 (z5_mw24 fr)
def z5_mw25 (fr : Nat → Int64) : Int64 := ((0 + ((fr 12) * (z5_mw24 fr))) + (-((fr 15) * (z5_mw17 fr)))) + ((fr 16) * (z5_mw9 fr))
def z5_mm26 (fr : Nat → Int64) (fd : Nat → Int64) : Nat → Int64 := vp_updL (z5_mm25 fr fd) 25 (z5_mw25 fr)
def z5_mw26 (fr : Nat → Int64) : Int64 := ((0 + ((fr 13) * (z5_mw24 fr))) + (-((fr 15) * (z5_mw18 fr)))) + ((fr 16) * (z5_mw10 fr))
def z5_mm27 (fr : Nat → Int64) (fd : Nat → Int64) : Nat → Int64 := vp_updL (z5_mm26 fr fd) 26 (z5_mw26 fr)
def z5_mw27 (fr : Nat → Int64) : Int64 := (((0 + (-((fr 18) * (z5_mw26 fr)))) + ((fr 19) * (z5_mw25 fr))) + (-((fr 21) * (z5_mw19 fr)))) + ((fr 22) * (z5_mw11 fr))
def z5_mm28 (fr : Nat → Int64) (fd : Nat → Int64) : Nat → Int64 := vp_updL (z5_mm27 fr fd) 27 (z5_mw27 fr)
def z5_mw28 (fr : Nat → Int64) : Int64 := ((0 + ((fr 14) * (z5_mw24 fr))) + (-((fr 15) * (z5_mw20 fr)))) + ((fr 16) * (z5_mw12 fr))
def z5_mm29 (fr : Nat → Int64) (fd : Nat → Int64) : Nat → Int64 := vp_updL (z5_mm28 fr fd) 28 (z5_mw28 fr)
def z5_mw29 (fr : Nat → Int64) : Int64 := (((0 + (-((fr 18) * (z5_mw28 fr)))) + ((fr 20) * (z5_mw25 fr))) + (-((fr 21) * (z5_mw21 fr)))) + ((fr 22) * (z5_mw13 fr))
def z5_mm30 (fr : Nat → Int64) (fd : Nat → Int64) : Nat → Int64 := vp_updL (z5_mm29 fr fd) 29 (z5_mw29 fr)
def z5_mw30 (fr : Nat → Int64) : Int64 := (((0 + (-((fr 19) * (z5_mw28 fr)))) + ((fr 20) * (z5_mw26 fr))) + (-((fr 21) * (z5_mw22 fr)))) + ((fr 22) * (z5_mw14 fr))
def z5_mm31 (fr : Nat → Int64) (fd : Nat → Int64) : Nat → Int64 := vp_updL (z5_mm30 fr fd) 30 (z5_mw30 fr)
def z5_mw31 (fr : Nat → Int64) : Int64 := ((((0 + ((fr 24) * (z5_mw30 fr))) + (-((fr 25) * (z5_mw29 fr)))) + ((fr 26) * (z5_mw27 fr))) + (-((fr 27) * (z5_mw23 fr)))) + ((fr 28) * (z5_mw15 fr))
def z5_mm32 (fr : Nat → Int64) (fd : Nat → Int64) : Nat → Int64 := vp_updL (z5_mm31 fr fd) 31 (z5_mw31 fr)
def z5_mw32 (fr : Nat → Int64) : Int64 := 0 + ((fr 5) * (z5_mw0 fr))
def z5_mm33 (fr : Nat → Int64) (fd : Nat → Int64) : Nat → Int64 := vp_updL (z5_mm32 fr fd) 32 (z5_mw32 fr)
def z5_mw33 (fr : Nat → Int64) : Int64 := (0 + (-((fr 6) * (z5_mw32 fr)))) + ((fr 11) * (z5_mw1 fr))
def z5_mm34 (fr : Nat → Int64) (fd : Nat → Int64) : Nat → Int64 := vp_updL (z5_mm33 fr fd) 33 (z5_mw33 fr)
def z5_mw34 (fr : Nat → Int64) : Int64 := (0 + (-((fr 7) * (z5_mw32 fr)))) + ((fr 11) * (z5_mw2 fr))
def z5_mm35 (fr : Nat → Int64) (fd : Nat → Int64) : Nat → Int64 := vp_updL (z5_mm34 fr fd) 34 (z5_mw34 fr)
def z5_mw35 (fr : Nat → Int64) : Int64 := ((0 + ((fr 12) * (z5_mw34 fr))) + (-((fr 13) * (z5_mw33 fr)))) + ((fr 17) * (z5_mw3 fr))
def z5_mm36 (fr : Nat → Int64) (fd : Nat → Int64) : Nat → Int64 := vp_updL (z5_mm35 fr fd) 35 (z5_mw35 fr)
def z5_mw36 (fr : Nat → Int64) : Int64 := (0 + (-((fr 8) * (z5_mw32 fr)))) + ((fr 11) * (z5_mw4 fr))
def z5_mm37 (fr : Nat → Int64) (fd : Nat → Int64) : Nat → Int64 := vp_updL (z5_mm36 fr fd) 36 (z5_mw36 fr)
def z5_mw37 (fr : Nat → Int64) : Int64 := ((0 + ((fr 12) * (z5_mw36 fr))) + (-((fr 14) * (z5_mw33 fr)))) + ((fr 17) * (z5_mw5 fr))
def z5_mm38 (fr : Nat → Int64) (fd : Nat → Int64) : Nat → Int64 := vp_updL (z5_mm37 fr fd) 37 (z5_mw37 fr)
def z5_mw38 (fr : Nat → Int64) : Int64 := ((0 + ((fr 13) * (z5_mw36 fr))) + (-((fr 14) * (z5_mw34 fr)))) + ((fr 17) * (z5_mw6 fr))
def z5_mm39 (fr : Nat → Int64) (fd : Nat → Int64) : Nat → Int64 := vp_updL (z5_mm38 fr fd) 38 (z5_mw38 fr)
def z5_mw39 (fr : Nat → Int64) : Int64 := (((0 + (-((fr 18) * (z5_mw38 fr)))) + ((fr 19) * (z5_mw37 fr))) + (-((fr 20) * (z5_mw35 fr)))) + ((fr 23) * (z5_mw7 fr))
def z5_mm40 (fr : Nat → Int64) (fd : Nat → Int64) : Nat → Int64 := vp_updL (z5_mm39 fr fd) 39 (z5_mw39 fr)
def z5_mw40 (fr : Nat → Int64) : Int64 := (0 + (-((fr 9) * (z5_mw32 fr)))) + ((fr 11) * (z5_mw8 fr))
def z5_mm41 (fr : Nat → Int64) (fd : Nat → Int64) : Nat → Int64 := vp_updL (z5_mm40 fr fd) 40 (z5_mw40 fr)
def z5_mw41 (fr : Nat → Int64) : Int64 := ((0 + ((fr 12) * (z5_mw40 fr))) + (-((fr 15) * (z5_mw33 fr)))) + ((fr 17) * (z5_mw9 fr))
def z5_mm42 (fr : Nat → Int64) (fd : Nat → Int64) : Nat → Int64 := vp_updL (z5_mm41 fr fd) 41 (z5_mw41 fr)
def z5_mw42 (fr : Nat → Int64) : Int64 := ((0 + ((fr 13) * (z5_mw40 fr))) + (-((fr 15) * (z5_mw34 fr)))) + ((fr 17) * (z5_mw10 fr))
def z5_mm43 (fr : Nat → Int64) (fd : Nat → Int64) : Nat → Int64 := vp_updL (z5_mm42 fr fd) 42 (z5_mw42 fr)
def z5_mw43 (fr : Nat → Int64) : Int64 := (((0 + (-((fr 18) * (z5_mw42 fr)))) + ((fr 19) * (z5_mw41 fr))) + (-((fr 21) * (z5_mw35 fr)))) + ((fr 23) * (z5_mw11 fr))
def z5_mm44 (fr : Nat → Int64) (fd : Nat → Int64) : Nat → Int64 := vp_updL (z5_mm43 fr fd) 43 (z5_mw43 fr)
def z5_mw44 (fr : Nat → Int64) : Int64 := ((0 + ((fr 14) * (z5_mw40 fr))) + (-((fr 15) * (z5_mw36 fr)))) + ((fr 17) * (z5_mw12 fr))
def z5_mm45 (fr : Nat → Int64) (fd : Nat → Int64) : Nat → Int64 := vp_updL (z5_mm44 fr fd) 44 (z5_mw44 fr)
def z5_mw45 (fr : Nat → Int64) : Int64 := (((0 + (-((fr 18) * (z5_mw44 fr)))) + ((fr 20) * (z5_mw41 fr))) + (-((fr 21) * (z5_mw37 fr)))) + ((fr 23) * (z5_mw13 fr))
def z5_mm46 (fr : Nat → Int64) (fd : Nat → Int64) : Nat → Int64 := vp_updL (z5_mm45 fr fd) 45 (z5_mw45 fr)
def z5_mw46 (fr : Nat → Int64) : Int64 := (((0 + (-((fr 19) * (z5_mw44 fr)))) + ((fr 20) * (z5_mw42 fr))) + (-((fr 21) * (z5_mw38 fr)))) + ((fr 23) * (z5_mw14 fr))
def z5_mm47 (fr : Nat → Int64) (fd : Nat → Int64) : Nat → Int64 := vp_updL (z5_mm46 fr fd) 46 (z5_mw46 fr)
def z5_mw47 (fr : Nat → Int64) : Int64 := ((((0 + ((fr 24) * (z5_mw46 fr))) + (-((fr 25) * (z5_mw45 fr)))) + ((fr 26) * (z5_mw43 fr))) + (-((fr 27) * (z5_mw39 fr)))) + ((fr 29) * (z5_mw15 fr))
def z5_mm48 (fr : Nat → Int64) (fd : Nat → Int64) : Nat → Int64 := vp_updL (z5_mm47 fr fd) 47 (z5_mw47 fr)
def z5_mw48 (fr : Nat → Int64) : Int64 := (0 + (-((fr 10) * (z5_mw32 fr)))) + ((fr 11) * (z5_mw16 fr))
def z5_mm49 (fr : Nat → Int64) (fd : Nat → Int64) : Nat → Int64 := vp_updL (z5_mm48 fr fd) 48 (z5_mw48 fr)
def z5_mw49 (fr : Nat → Int64) : Int64 := ((0 + ((fr 12) * (z5_mw48 fr))) + (-((fr 16) * (z5_mw33 fr)))) + ((fr 17) * (z5_mw17 fr))
def z5_mm50 (fr : Nat → Int64) (fd : Nat → Int64) : Nat → Int64 := vp_updL (z5_mm49 fr fd) 49 (z5_mw49 fr)
def z5_mw50 (fr : Nat → Int64) : Int64 := ((0 + ((fr 13) * (z5_mw48 fr))) + (-((fr 16) * (z5_mw34 fr)))) + ((fr 17) * (z5_mw18 fr))
def z5_mm51 (fr : Nat → Int64) (fd : Nat → Int64) : Nat → Int64 := vp_updL (z5_mm50 fr fd) 50 (z5_mw50 fr)
def z5_mw51 (fr : Nat → Int64) : Int64 := (((0 + (-((fr 18) * (z5_mw50 fr)))) + ((fr 19) * (z5_mw49 fr))) + (-((fr 22) * (z5_mw35 fr)))) + ((fr 23) * (z5_mw19 fr))
def z5_mm52 (fr : Nat → Int64) (fd : Nat → Int64) : Nat → Int64 := vp_updL (z5_mm51 fr fd) 51 (z5_mw51 fr)
def z5_mw52 (fr : Nat → Int64) : Int64 := ((0 + ((fr 14) * (z5_mw48 fr))) + (-((fr 16) * (z5_mw36 fr)))) + ((fr 17) * (z5_mw20 fr))
def z5_mm53 (fr : Nat → Int64) (fd : Nat → Int64) : Nat → Int64 := vp_updL (z5_mm52 fr fd) 52 (z5_mw52 fr)
def z5_mw53 (fr : Nat → Int64) : Int64 := (((0 + (-((fr 18) * (z5_mw52 fr)))) + ((fr 20) * (z5_mw49 fr))) + (-((fr 22) * (z5_mw37 fr)))) + ((fr 23) * (z5_mw21 fr))
def z5_mm54 (fr : Nat → Int64) (fd : Nat → Int64) : Nat → Int64 := vp_updL (z5_mm53 fr fd) 53 (z5_mw53 fr)
def z5_mw54 (fr : Nat → Int64) : Int64 := (((0 + (-((fr 19) * (z5_mw52 fr)))) + ((fr 20) * (z5_mw50 fr))) + (-((fr 22) * (z5_mw38 fr)))) + ((fr 23) * (z5_mw22 fr))
def z5_mm55 (fr : Nat → Int64) (fd : Nat → Int64) : Nat → Int64 := vp_updL (z5_mm54 fr fd) 54 (z5_mw54 fr)
def z5_mw55 (fr : Nat → Int64) : Int64 := ((((0 + ((fr 24) * (z5_mw54 fr))) + (-((fr 25) * (z5_mw53 fr)))) + ((fr 26) * (z5_mw51 fr))) + (-((fr 28) * (z5_mw39 fr)))) + ((fr 29) * (z5_mw23 fr))
def z5_mm56 (fr : Nat → Int64) (fd : Nat → Int64) : Nat → Int64 := vp_updL (z5_mm55 fr fd) 55 (z5_mw55 fr)
def z5_mw56 (fr : Nat → Int64) : Int64 := ((0 + ((fr 15) * (z5_mw48 fr))) + (-((fr 16) * (z5_mw40 fr)))) + ((fr 17) * (z5_mw24 fr))
def z5_mm57 (fr : Nat → Int64) (fd : Nat → Int64) : Nat → Int64 := vp_updL (z5_mm56 fr fd) 56 (z5_mw56 fr)
def z5_mw57 (fr : Nat → Int64) : Int64 := (((0 + (-((fr 18) * (z5_mw56 fr)))) + ((fr 21) * (z5_mw49 fr))) + (-((fr 22) * (z5_mw41 fr)))) + ((fr 23) * (z5_mw25 fr))
def z5_mm58 (fr : Nat → Int64) (fd : Nat → Int64) : Nat → Int64 := vp_updL (z5_mm57 fr fd) 57 (z5_mw57 fr)
def z5_mw58 (fr : Nat → Int64) : Int64 := (((0 + (-((fr 19) * (z5_mw56 fr)))) + ((fr 21) * (z5_mw50 fr))) + (-((fr 22) * (z5_mw42 fr)))) + ((fr 23) * (z5_mw26 fr))
def z5_mm59 (fr : Nat → Int64) (fd : Nat → Int64) : Nat → Int64 := vp_updL (z5_mm58 fr fd) 58 (z5_mw58 fr)
def z5_mw59 (fr : Nat → Int64) : Int64 := ((((0 + ((fr 24) * (z5_mw58 fr))) + (-((fr 25) * (z5_mw57 fr)))) + ((fr 27) * (z5_mw51 fr))) + (-((fr 28) * (z5_mw43 fr)))) + ((fr 29) * (z5_mw27 fr))
def z5_mm60 (fr : Nat → Int64) (fd : Nat → Int64) : Nat → Int64 := vp_updL (z5_mm59 fr fd) 59 (z5_mw59 fr)
def z5_mw60 (fr : Nat → Int64) : Int64 := (((0 + (-((fr 20) * (z5_mw56 fr)))) + ((fr 21) * (z5_mw52 fr))) + (-((fr 22) * (z5_mw44 fr)))) + ((fr 23) * (z5_mw28 fr))
def z5_mm61 (fr : Nat → Int64) (fd : Nat → Int64) : Nat → Int64 := vp_updL (z5_mm60 fr fd) 60 (z5_mw60 fr)
def z5_mw61 (fr : Nat → Int64) : Int64 := ((((0 + ((fr 24) * (z5_mw60 fr))) + (-((fr 26) * (z5_mw57 fr)))) + ((fr 27) * (z5_mw53 fr))) + (-((fr 28) * (z5_mw45 fr)))) + ((fr 29) * (z5_mw29 fr))
def z5_mm62 (fr : Nat → Int64) (fd : Nat → Int64) : Nat → Int64 := vp_updL (z5_mm61 fr fd) 61 (z5_mw61 fr)
def z5_mw62 (fr : Nat → Int64) : Int64 := ((((0 + ((fr 25) * (z5_mw60 fr))) + (-((fr 26) * (z5_mw58 fr)))) + ((fr 27) * (z5_mw54 fr))) + (-((fr 28) * (z5_mw46 fr)))) + ((fr 29) * (z5_mw30 fr))
def z5_mm63 (fr : Nat → Int64) (fd : Nat → Int64) : Nat → Int64 := vp_updL (z5_mm62 fr fd) 62 (z5_mw62 fr)
def z5_mw63 (fr : Nat → Int64) : Int64 := 0
def z5_mm64 (fr : Nat → Int64) (fd : Nat → Int64) : Nat → Int64 := vp_updL (z5_mm63 fr fd) 63 (z5_mw63 fr)
def z5_layMinors_f2 (fr : Nat → Int64) (fd : Nat → Int64) : Nat → Int64 := z5_mm64 fr fd

set_option maxHeartbeats 4000000 in
set_option maxRecDepth 100000 in
theorem sg_X5_layMinors_64 {l : Launch} {D : va_G} {cI cJ : ClassId} {pG : Program} {eG : Env} {sG : State} {mG : MethodId} {below : List Frame} {meth : Method} {cG : Code} {A : Nat → Prop} {H : Heap} {locs : List Loc} {o : Nat} {mP : Nat} {mL : Nat} {mC : Nat} {mN : Nat} {mF : Nat} {mR : Nat} {mD : Nat} {mV : Nat} {mX : Nat} {mA : Nat} {mK : Nat} {mT : Nat} {mU : Nat} {mH : Nat} {mI : Nat} {cm : Int32} {pm : Int32} {fr : Nat → Int64} {fd : Nat → Int64} (hx : pG.tables.exec = Jvm.exec) (hb : cG.code = cX5_layMinors) (hr : meth.sig.returnType = none) (hml : cG.maxLocals = 9) (hown : sG.vm.findClass RX5 = some mG.cls) (hts : ∀ x ∈ wsX5_layMinors, x.before ([.ref o] : List Value).toArray sG = true) (hlk : meth.locks = false) (hK : gd_K D cI cJ sG) (hA : ∀ q : Nat, sG.heap.size ≤ q → A q) (hP : va_P D vwCl [kM o mP mL mC mN mF mR mD mV mX mA mK cm mT pm mU mH mI, kJ mR cJ 30 fr, kJ mD cJ 64 (z5_mm64 fr fd)] H) (hD : va_D A [kM o mP mL mC mN mF mR mD mV mX mA mK cm mT pm mU mH mI, kJ mR cJ 30 fr, kJ mD cJ 64 (z5_mm64 fr fd)]) (hS : va_S A sG.heap H locs) (ls : Array Slot) (hl : lv_has ls 9 [(0, .ref o), (1, .int 64)]) : W pG l eG (headSpec wsX5_layMinors ({ frames := 0, cells := 0, slots := 0, locals := 0 })).room sG mG ([.ref o] : List Value).toArray below meth cG H locs 0 0 (MQ below ((qe_v (fun _ : Unit => True) (fun uu => [kM o mP mL mC mN mF mR mD mV mX mA mK cm mT pm mU mH mI, kJ mR cJ 30 fr, kJ mD cJ 64 (z5_layMinors_f2 fr fd)])) D A) ([.ref o] : List Value).toArray sG 0 0 A) (F0 mG 9 ls []) := by
  have k_1 := hts (.fieldLink RX5 29 "ConicRowsModel" "minors" "[J") (by decide +kernel)
  have k_2 : ∀ w ∈ wsX50, w ∈ wsX5_layMinors := by decide +kernel
  have k_3 := hts (.constant RX5 122 (-1000001)) (by decide +kernel)
  have k_4 := hts (.fieldLink RX5 26 "ConicRowsModel" "rows" "[J") (by decide +kernel)
  refine lv_iload_n hx hb dX5_layMinors_9 rfl (lv_at hl 1 rfl) ?_
  refine lv_bipush (v := 64) hx hb dX5_layMinors_10 (by decide) ?_
  refine lv_icmp_ge (tgt := 148) hx hb dX5_layMinors_12 (by decide) (fun _ => ?_) (fun h => absurd (by decide) h)
  have he_0 : z5_layMinors_f2 fr fd = z5_mm64 fr fd := by delta z5_layMinors_f2; rfl
  exact rt_v (w1 := fun uu : Unit => [kM o mP mL mC mN mF mR mD mV mX mA mK cm mT pm mU mH mI, kJ mR cJ 30 fr, kJ mD cJ 64 (z5_layMinors_f2 fr fd)]) hx hb hr hlk hS dX5_layMinors_148 (()) trivial (by rw [he_0]; exact hP) (by rw [he_0]; exact hD)
set_option maxHeartbeats 4000000 in
set_option maxRecDepth 100000 in
theorem sg_X5_layMinors_63 {l : Launch} {D : va_G} {cI cJ : ClassId} {pG : Program} {eG : Env} {sG : State} {mG : MethodId} {below : List Frame} {meth : Method} {cG : Code} {A : Nat → Prop} {H : Heap} {locs : List Loc} {o : Nat} {mP : Nat} {mL : Nat} {mC : Nat} {mN : Nat} {mF : Nat} {mR : Nat} {mD : Nat} {mV : Nat} {mX : Nat} {mA : Nat} {mK : Nat} {mT : Nat} {mU : Nat} {mH : Nat} {mI : Nat} {cm : Int32} {pm : Int32} {fr : Nat → Int64} {fd : Nat → Int64} (hx : pG.tables.exec = Jvm.exec) (hb : cG.code = cX5_layMinors) (hr : meth.sig.returnType = none) (hml : cG.maxLocals = 9) (hown : sG.vm.findClass RX5 = some mG.cls) (hts : ∀ x ∈ wsX5_layMinors, x.before ([.ref o] : List Value).toArray sG = true) (hlk : meth.locks = false) (hK : gd_K D cI cJ sG) (hA : ∀ q : Nat, sG.heap.size ≤ q → A q) (hP : va_P D vwCl [kM o mP mL mC mN mF mR mD mV mX mA mK cm mT pm mU mH mI, kJ mR cJ 30 fr, kJ mD cJ 64 (z5_mm63 fr fd)] H) (hD : va_D A [kM o mP mL mC mN mF mR mD mV mX mA mK cm mT pm mU mH mI, kJ mR cJ 30 fr, kJ mD cJ 64 (z5_mm63 fr fd)]) (hS : va_S A sG.heap H locs) (ls : Array Slot) (hl : lv_has ls 9 [(0, .ref o), (1, .int 63)]) : W pG l eG (headSpec wsX5_layMinors ({ frames := 0, cells := 0, slots := 0, locals := 0 })).room sG mG ([.ref o] : List Value).toArray below meth cG H locs 0 0 (MQ below ((qe_v (fun _ : Unit => True) (fun uu => [kM o mP mL mC mN mF mR mD mV mX mA mK cm mT pm mU mH mI, kJ mR cJ 30 fr, kJ mD cJ 64 (z5_layMinors_f2 fr fd)])) D A) ([.ref o] : List Value).toArray sG 0 0 A) (F0 mG 9 ls []) := by
  have k_1 := hts (.fieldLink RX5 29 "ConicRowsModel" "minors" "[J") (by decide +kernel)
  have k_2 : ∀ w ∈ wsX50, w ∈ wsX5_layMinors := by decide +kernel
  have k_3 := hts (.constant RX5 122 (-1000001)) (by decide +kernel)
  have k_4 := hts (.fieldLink RX5 26 "ConicRowsModel" "rows" "[J") (by decide +kernel)
  refine lv_iload_n hx hb dX5_layMinors_9 rfl (lv_at hl 1 rfl) ?_
  refine lv_bipush (v := 64) hx hb dX5_layMinors_10 (by decide) ?_
  refine lv_icmp_ge (tgt := 148) hx hb dX5_layMinors_12 (by decide) (fun h => absurd h (by decide)) (fun _ => ?_)
  refine lv_ldc hx hb hown k_3 dX5_layMinors_15 ?_
  refine lv_istore_n (lv' := [(2, .int (-1000001)), (0, .ref o), (1, .int 63)]) hx hb dX5_layMinors_17 rfl hl (by decide) rfl (fun ls hl => ?_)
  refine lv_iconst (v := 0) hx hb dX5_layMinors_18 (by decide) ?_
  refine lv_istore_n (lv' := [(3, .int 0), (2, .int (-1000001)), (0, .ref o), (1, .int 63)]) hx hb dX5_layMinors_19 rfl hl (by decide) rfl (fun ls hl => ?_)
  refine lv_iload_n hx hb dX5_layMinors_20 rfl (lv_at hl 0 rfl) ?_
  refine lv_bipush (v := 6) hx hb dX5_layMinors_21 (by decide) ?_
  refine lv_icmp_ge (tgt := 52) hx hb dX5_layMinors_23 (by decide) (fun h => absurd h (by decide)) (fun _ => ?_)
  refine lv_iload_n hx hb dX5_layMinors_26 rfl (lv_at hl 1 rfl) ?_
  refine lv_ldc hx hb hown k_3 dX5_layMinors_27 ?_
  refine lv_icmp_ne (tgt := 36) hx hb dX5_layMinors_29 (by decide) (fun h => absurd (by decide) h) (fun _ => ?_)
  refine lv_iconst (v := (-1)) hx hb dX5_layMinors_32 (by decide) ?_
  refine lv_goto (tgt := 37) hx hb dX5_layMinors_33 (by decide) ?_
  refine lv_istore_n (lv' := [(2, .int (-1)), (3, .int 0), (0, .ref o), (1, .int 63)]) hx hb dX5_layMinors_37 rfl hl (by decide) rfl (fun ls hl => ?_)
  refine lv_iload_n hx hb dX5_layMinors_38 rfl (lv_at hl 0 rfl) ?_
  refine lv_iload_n hx hb dX5_layMinors_39 rfl (lv_at hl 3 rfl) ?_
  refine lv_iload_n hx hb dX5_layMinors_40 rfl (lv_at hl 1 rfl) ?_
  refine lv_ishr hx hb dX5_layMinors_41 ?_
  refine lv_eqi (v := 63) (by decide) ?_
  refine lv_iconst (v := 1) hx hb dX5_layMinors_42 (by decide) ?_
  refine lv_iand hx hb dX5_layMinors_43 ?_
  refine lv_eqi (v := 1) (by decide) ?_
  refine lv_iadd hx hb dX5_layMinors_44 ?_
  refine lv_eqi (v := 0) (by decide) ?_
  refine lv_istore_n (lv' := [(2, .int 0), (3, .int 0), (0, .ref o), (1, .int 63)]) hx hb dX5_layMinors_45 rfl hl (by decide) rfl (fun ls hl => ?_)
  refine lv_iinc (v := 1) (lv' := [(3, .int 1), (2, .int 0), (0, .ref o), (1, .int 63)]) hx hb dX5_layMinors_46 hl (k := 1) rfl (by decide) (by decide) rfl (fun ls hl => ?_)
  refine lv_goto (tgt := 20) hx hb dX5_layMinors_49 (by decide) ?_
  refine lv_iload_n hx hb dX5_layMinors_20 rfl (lv_at hl 0 rfl) ?_
  refine lv_bipush (v := 6) hx hb dX5_layMinors_21 (by decide) ?_
  refine lv_icmp_ge (tgt := 52) hx hb dX5_layMinors_23 (by decide) (fun h => absurd h (by decide)) (fun _ => ?_)
  refine lv_iload_n hx hb dX5_layMinors_26 rfl (lv_at hl 1 rfl) ?_
  refine lv_ldc hx hb hown k_3 dX5_layMinors_27 ?_
  refine lv_icmp_ne (tgt := 36) hx hb dX5_layMinors_29 (by decide) (fun _ => ?_) (fun h => absurd h (by decide))
  refine lv_iload_n hx hb dX5_layMinors_36 rfl (lv_at hl 1 rfl) ?_
  refine lv_istore_n (lv' := [(2, .int 0), (3, .int 1), (0, .ref o), (1, .int 63)]) hx hb dX5_layMinors_37 rfl hl (by decide) rfl (fun ls hl => ?_)
  refine lv_iload_n hx hb dX5_layMinors_38 rfl (lv_at hl 0 rfl) ?_
  refine lv_iload_n hx hb dX5_layMinors_39 rfl (lv_at hl 3 rfl) ?_
  refine lv_iload_n hx hb dX5_layMinors_40 rfl (lv_at hl 1 rfl) ?_
  refine lv_ishr hx hb dX5_layMinors_41 ?_
  refine lv_eqi (v := 31) (by decide) ?_
  refine lv_iconst (v := 1) hx hb dX5_layMinors_42 (by decide) ?_
  refine lv_iand hx hb dX5_layMinors_43 ?_
  refine lv_eqi (v := 1) (by decide) ?_
  refine lv_iadd hx hb dX5_layMinors_44 ?_
  refine lv_eqi (v := 1) (by decide) ?_
  refine lv_istore_n (lv' := [(2, .int 1), (3, .int 1), (0, .ref o), (1, .int 63)]) hx hb dX5_layMinors_45 rfl hl (by decide) rfl (fun ls hl => ?_)
  refine lv_iinc (v := 2) (lv' := [(3, .int 2), (2, .int 1), (0, .ref o), (1, .int 63)]) hx hb dX5_layMinors_46 hl (k := 1) rfl (by decide) (by decide) rfl (fun ls hl => ?_)
  refine lv_goto (tgt := 20) hx hb dX5_layMinors_49 (by decide) ?_
  refine lv_iload_n hx hb dX5_layMinors_20 rfl (lv_at hl 0 rfl) ?_
  refine lv_bipush (v := 6) hx hb dX5_layMinors_21 (by decide) ?_
  refine lv_icmp_ge (tgt := 52) hx hb dX5_layMinors_23 (by decide) (fun h => absurd h (by decide)) (fun _ => ?_)
  refine lv_iload_n hx hb dX5_layMinors_26 rfl (lv_at hl 1 rfl) ?_
  refine lv_ldc hx hb hown k_3 dX5_layMinors_27 ?_
  refine lv_icmp_ne (tgt := 36) hx hb dX5_layMinors_29 (by decide) (fun _ => ?_) (fun h => absurd h (by decide))
  refine lv_iload_n hx hb dX5_layMinors_36 rfl (lv_at hl 1 rfl) ?_
  refine lv_istore_n (lv' := [(2, .int 1), (3, .int 2), (0, .ref o), (1, .int 63)]) hx hb dX5_layMinors_37 rfl hl (by decide) rfl (fun ls hl => ?_)
  refine lv_iload_n hx hb dX5_layMinors_38 rfl (lv_at hl 0 rfl) ?_
  refine lv_iload_n hx hb dX5_layMinors_39 rfl (lv_at hl 3 rfl) ?_
  refine lv_iload_n hx hb dX5_layMinors_40 rfl (lv_at hl 1 rfl) ?_
  refine lv_ishr hx hb dX5_layMinors_41 ?_
  refine lv_eqi (v := 15) (by decide) ?_
  refine lv_iconst (v := 1) hx hb dX5_layMinors_42 (by decide) ?_
  refine lv_iand hx hb dX5_layMinors_43 ?_
  refine lv_eqi (v := 1) (by decide) ?_
  refine lv_iadd hx hb dX5_layMinors_44 ?_
  refine lv_eqi (v := 2) (by decide) ?_
  refine lv_istore_n (lv' := [(2, .int 2), (3, .int 2), (0, .ref o), (1, .int 63)]) hx hb dX5_layMinors_45 rfl hl (by decide) rfl (fun ls hl => ?_)
  refine lv_iinc (v := 3) (lv' := [(3, .int 3), (2, .int 2), (0, .ref o), (1, .int 63)]) hx hb dX5_layMinors_46 hl (k := 1) rfl (by decide) (by decide) rfl (fun ls hl => ?_)
  refine lv_goto (tgt := 20) hx hb dX5_layMinors_49 (by decide) ?_
  refine lv_iload_n hx hb dX5_layMinors_20 rfl (lv_at hl 0 rfl) ?_
  refine lv_bipush (v := 6) hx hb dX5_layMinors_21 (by decide) ?_
  refine lv_icmp_ge (tgt := 52) hx hb dX5_layMinors_23 (by decide) (fun h => absurd h (by decide)) (fun _ => ?_)
  refine lv_iload_n hx hb dX5_layMinors_26 rfl (lv_at hl 1 rfl) ?_
  refine lv_ldc hx hb hown k_3 dX5_layMinors_27 ?_
  refine lv_icmp_ne (tgt := 36) hx hb dX5_layMinors_29 (by decide) (fun _ => ?_) (fun h => absurd h (by decide))
  refine lv_iload_n hx hb dX5_layMinors_36 rfl (lv_at hl 1 rfl) ?_
  refine lv_istore_n (lv' := [(2, .int 2), (3, .int 3), (0, .ref o), (1, .int 63)]) hx hb dX5_layMinors_37 rfl hl (by decide) rfl (fun ls hl => ?_)
  refine lv_iload_n hx hb dX5_layMinors_38 rfl (lv_at hl 0 rfl) ?_
  refine lv_iload_n hx hb dX5_layMinors_39 rfl (lv_at hl 3 rfl) ?_
  refine lv_iload_n hx hb dX5_layMinors_40 rfl (lv_at hl 1 rfl) ?_
  refine lv_ishr hx hb dX5_layMinors_41 ?_
  refine lv_eqi (v := 7) (by decide) ?_
  refine lv_iconst (v := 1) hx hb dX5_layMinors_42 (by decide) ?_
  refine lv_iand hx hb dX5_layMinors_43 ?_
  refine lv_eqi (v := 1) (by decide) ?_
  refine lv_iadd hx hb dX5_layMinors_44 ?_
  refine lv_eqi (v := 3) (by decide) ?_
  refine lv_istore_n (lv' := [(2, .int 3), (3, .int 3), (0, .ref o), (1, .int 63)]) hx hb dX5_layMinors_45 rfl hl (by decide) rfl (fun ls hl => ?_)
  refine lv_iinc (v := 4) (lv' := [(3, .int 4), (2, .int 3), (0, .ref o), (1, .int 63)]) hx hb dX5_layMinors_46 hl (k := 1) rfl (by decide) (by decide) rfl (fun ls hl => ?_)
  refine lv_goto (tgt := 20) hx hb dX5_layMinors_49 (by decide) ?_
  refine lv_iload_n hx hb dX5_layMinors_20 rfl (lv_at hl 0 rfl) ?_
  refine lv_bipush (v := 6) hx hb dX5_layMinors_21 (by decide) ?_
  refine lv_icmp_ge (tgt := 52) hx hb dX5_layMinors_23 (by decide) (fun h => absurd h (by decide)) (fun _ => ?_)
  refine lv_iload_n hx hb dX5_layMinors_26 rfl (lv_at hl 1 rfl) ?_
  refine lv_ldc hx hb hown k_3 dX5_layMinors_27 ?_
  refine lv_icmp_ne (tgt := 36) hx hb dX5_layMinors_29 (by decide) (fun _ => ?_) (fun h => absurd h (by decide))
  refine lv_iload_n hx hb dX5_layMinors_36 rfl (lv_at hl 1 rfl) ?_
  refine lv_istore_n (lv' := [(2, .int 3), (3, .int 4), (0, .ref o), (1, .int 63)]) hx hb dX5_layMinors_37 rfl hl (by decide) rfl (fun ls hl => ?_)
  refine lv_iload_n hx hb dX5_layMinors_38 rfl (lv_at hl 0 rfl) ?_
  refine lv_iload_n hx hb dX5_layMinors_39 rfl (lv_at hl 3 rfl) ?_
  refine lv_iload_n hx hb dX5_layMinors_40 rfl (lv_at hl 1 rfl) ?_
  refine lv_ishr hx hb dX5_layMinors_41 ?_
  refine lv_eqi (v := 3) (by decide) ?_
  refine lv_iconst (v := 1) hx hb dX5_layMinors_42 (by decide) ?_
  refine lv_iand hx hb dX5_layMinors_43 ?_
  refine lv_eqi (v := 1) (by decide) ?_
  refine lv_iadd hx hb dX5_layMinors_44 ?_
  refine lv_eqi (v := 4) (by decide) ?_
  refine lv_istore_n (lv' := [(2, .int 4), (3, .int 4), (0, .ref o), (1, .int 63)]) hx hb dX5_layMinors_45 rfl hl (by decide) rfl (fun ls hl => ?_)
  refine lv_iinc (v := 5) (lv' := [(3, .int 5), (2, .int 4), (0, .ref o), (1, .int 63)]) hx hb dX5_layMinors_46 hl (k := 1) rfl (by decide) (by decide) rfl (fun ls hl => ?_)
  refine lv_goto (tgt := 20) hx hb dX5_layMinors_49 (by decide) ?_
  refine lv_iload_n hx hb dX5_layMinors_20 rfl (lv_at hl 0 rfl) ?_
  refine lv_bipush (v := 6) hx hb dX5_layMinors_21 (by decide) ?_
  refine lv_icmp_ge (tgt := 52) hx hb dX5_layMinors_23 (by decide) (fun h => absurd h (by decide)) (fun _ => ?_)
  refine lv_iload_n hx hb dX5_layMinors_26 rfl (lv_at hl 1 rfl) ?_
  refine lv_ldc hx hb hown k_3 dX5_layMinors_27 ?_
  refine lv_icmp_ne (tgt := 36) hx hb dX5_layMinors_29 (by decide) (fun _ => ?_) (fun h => absurd h (by decide))
  refine lv_iload_n hx hb dX5_layMinors_36 rfl (lv_at hl 1 rfl) ?_
  refine lv_istore_n (lv' := [(2, .int 4), (3, .int 5), (0, .ref o), (1, .int 63)]) hx hb dX5_layMinors_37 rfl hl (by decide) rfl (fun ls hl => ?_)
  refine lv_iload_n hx hb dX5_layMinors_38 rfl (lv_at hl 0 rfl) ?_
  refine lv_iload_n hx hb dX5_layMinors_39 rfl (lv_at hl 3 rfl) ?_
  refine lv_iload_n hx hb dX5_layMinors_40 rfl (lv_at hl 1 rfl) ?_
  refine lv_ishr hx hb dX5_layMinors_41 ?_
  refine lv_eqi (v := 1) (by decide) ?_
  refine lv_iconst (v := 1) hx hb dX5_layMinors_42 (by decide) ?_
  refine lv_iand hx hb dX5_layMinors_43 ?_
  refine lv_eqi (v := 1) (by decide) ?_
  refine lv_iadd hx hb dX5_layMinors_44 ?_
  refine lv_eqi (v := 5) (by decide) ?_
  refine lv_istore_n (lv' := [(2, .int 5), (3, .int 5), (0, .ref o), (1, .int 63)]) hx hb dX5_layMinors_45 rfl hl (by decide) rfl (fun ls hl => ?_)
  refine lv_iinc (v := 6) (lv' := [(3, .int 6), (2, .int 5), (0, .ref o), (1, .int 63)]) hx hb dX5_layMinors_46 hl (k := 1) rfl (by decide) (by decide) rfl (fun ls hl => ?_)
  refine lv_goto (tgt := 20) hx hb dX5_layMinors_49 (by decide) ?_
  refine lv_iload_n hx hb dX5_layMinors_20 rfl (lv_at hl 0 rfl) ?_
  refine lv_bipush (v := 6) hx hb dX5_layMinors_21 (by decide) ?_
  refine lv_icmp_ge (tgt := 52) hx hb dX5_layMinors_23 (by decide) (fun _ => ?_) (fun h => absurd (by decide) h)
  refine lv_lconst (v := 0) hx hb dX5_layMinors_52 (by decide) ?_
  refine lv_lstore_n (lv' := [(3, .long 0), (2, .int 5), (0, .ref o), (1, .int 63)]) hx hb dX5_layMinors_53 rfl hl (by decide) rfl (fun ls hl => ?_)
  refine lv_iload_n hx hb dX5_layMinors_54 rfl (lv_at hl 1 rfl) ?_
  refine lv_istore (lv' := [(5, .int 5), (3, .long 0), (2, .int 5), (0, .ref o), (1, .int 63)]) hx hb dX5_layMinors_55 hl (by decide) rfl (fun ls hl => ?_)
  refine lv_iconst (v := 0) hx hb dX5_layMinors_57 (by decide) ?_
  refine lv_istore (lv' := [(6, .int 0), (5, .int 5), (3, .long 0), (2, .int 5), (0, .ref o), (1, .int 63)]) hx hb dX5_layMinors_58 hl (by decide) rfl (fun ls hl => ?_)
  refine lv_iload hx hb dX5_layMinors_60 (lv_at hl 0 rfl) ?_
  refine lv_bipush (v := 6) hx hb dX5_layMinors_62 (by decide) ?_
  refine lv_icmp_ge (tgt := 135) hx hb dX5_layMinors_64 (by decide) (fun h => absurd h (by decide)) (fun _ => ?_)
  refine lv_iload_n hx hb dX5_layMinors_67 rfl (lv_at hl 3 rfl) ?_
  refine lv_iconst (v := 5) hx hb dX5_layMinors_68 (by decide) ?_
  refine lv_icmp_ge (tgt := 135) hx hb dX5_layMinors_69 (by decide) (fun _ => ?_) (fun h => absurd (by decide) h)
  refine lv_aload_n hx hb dX5_layMinors_135 rfl (lv_at hl 4 rfl) ?_
  refine va_get (D := D) (ci := 5) (v := .ref mD) (C := RX5) (T := TX5) (N := 17) hx hb hts k_2 hown hK.1 hP 0 rfl rfl 6 (by decide) k_1 (fun _ h9 => h9) rfl dX5_layMinors_136 ?_
  refine lv_iload_n hx hb dX5_layMinors_139 rfl (lv_at hl 5 rfl) ?_
  refine lv_lload_n hx hb dX5_layMinors_140 rfl (lv_at hl 2 rfl) ?_
  refine st_l hx hb hK.1 hP hD hS 2 1 rfl rfl (ix_lit (by decide)) 63 (by decide) dX5_layMinors_141 (fun H locs hP hD hS => ?_)
  have hP : va_P D vwCl [kM o mP mL mC mN mF mR mD mV mX mA mK cm mT pm mU mH mI, kJ mR cJ 30 fr, kJ mD cJ 64 (vp_updL (z5_mm63 fr fd) 63 0)] H := hP
  have hD : va_D A [kM o mP mL mC mN mF mR mD mV mX mA mK cm mT pm mU mH mI, kJ mR cJ 30 fr, kJ mD cJ 64 (vp_updL (z5_mm63 fr fd) 63 0)] := hD
  have hP : va_P D vwCl [kM o mP mL mC mN mF mR mD mV mX mA mK cm mT pm mU mH mI, kJ mR cJ 30 fr, kJ mD cJ 64 (z5_mm64 fr fd)] H := hP
  have hD : va_D A [kM o mP mL mC mN mF mR mD mV mX mA mK cm mT pm mU mH mI, kJ mR cJ 30 fr, kJ mD cJ 64 (z5_mm64 fr fd)] := hD
  refine lv_iinc (v := 64) (lv' := [(1, .int 64), (6, .int 0), (5, .int 5), (3, .long 0), (2, .int 5), (0, .ref o)]) hx hb dX5_layMinors_142 hl (k := 5) rfl (by decide) (by decide) rfl (fun ls hl => ?_)
  refine lv_goto (tgt := 9) hx hb dX5_layMinors_145 (by decide) ?_
  exact sg_X5_layMinors_64 hx hb hr hml hown hts hlk hK hA hP hD hS ls (lv_sub hl [5, 0] rfl)
set_option maxHeartbeats 4000000 in
set_option maxRecDepth 100000 in
theorem sg_X5_layMinors_62 {l : Launch} {D : va_G} {cI cJ : ClassId} {pG : Program} {eG : Env} {sG : State} {mG : MethodId} {below : List Frame} {meth : Method} {cG : Code} {A : Nat → Prop} {H : Heap} {locs : List Loc} {o : Nat} {mP : Nat} {mL : Nat} {mC : Nat} {mN : Nat} {mF : Nat} {mR : Nat} {mD : Nat} {mV : Nat} {mX : Nat} {mA : Nat} {mK : Nat} {mT : Nat} {mU : Nat} {mH : Nat} {mI : Nat} {cm : Int32} {pm : Int32} {fr : Nat → Int64} {fd : Nat → Int64} (hx : pG.tables.exec = Jvm.exec) (hb : cG.code = cX5_layMinors) (hr : meth.sig.returnType = none) (hml : cG.maxLocals = 9) (hown : sG.vm.findClass RX5 = some mG.cls) (hts : ∀ x ∈ wsX5_layMinors, x.before ([.ref o] : List Value).toArray sG = true) (hlk : meth.locks = false) (hK : gd_K D cI cJ sG) (hA : ∀ q : Nat, sG.heap.size ≤ q → A q) (hP : va_P D vwCl [kM o mP mL mC mN mF mR mD mV mX mA mK cm mT pm mU mH mI, kJ mR cJ 30 fr, kJ mD cJ 64 (z5_mm62 fr fd)] H) (hD : va_D A [kM o mP mL mC mN mF mR mD mV mX mA mK cm mT pm mU mH mI, kJ mR cJ 30 fr, kJ mD cJ 64 (z5_mm62 fr fd)]) (hS : va_S A sG.heap H locs) (ls : Array Slot) (hl : lv_has ls 9 [(0, .ref o), (1, .int 62)]) : W pG l eG (headSpec wsX5_layMinors ({ frames := 0, cells := 0, slots := 0, locals := 0 })).room sG mG ([.ref o] : List Value).toArray below meth cG H locs 0 0 (MQ below ((qe_v (fun _ : Unit => True) (fun uu => [kM o mP mL mC mN mF mR mD mV mX mA mK cm mT pm mU mH mI, kJ mR cJ 30 fr, kJ mD cJ 64 (z5_layMinors_f2 fr fd)])) D A) ([.ref o] : List Value).toArray sG 0 0 A) (F0 mG 9 ls []) := by
  have k_1 := hts (.fieldLink RX5 29 "ConicRowsModel" "minors" "[J") (by decide +kernel)
  have k_2 : ∀ w ∈ wsX50, w ∈ wsX5_layMinors := by decide +kernel
  have k_3 := hts (.constant RX5 122 (-1000001)) (by decide +kernel)
  have k_4 := hts (.fieldLink RX5 26 "ConicRowsModel" "rows" "[J") (by decide +kernel)
  refine lv_iload_n hx hb dX5_layMinors_9 rfl (lv_at hl 1 rfl) ?_
  refine lv_bipush (v := 64) hx hb dX5_layMinors_10 (by decide) ?_
  refine lv_icmp_ge (tgt := 148) hx hb dX5_layMinors_12 (by decide) (fun h => absurd h (by decide)) (fun _ => ?_)
  refine lv_ldc hx hb hown k_3 dX5_layMinors_15 ?_
  refine lv_istore_n (lv' := [(2, .int (-1000001)), (0, .ref o), (1, .int 62)]) hx hb dX5_layMinors_17 rfl hl (by decide) rfl (fun ls hl => ?_)
  refine lv_iconst (v := 0) hx hb dX5_layMinors_18 (by decide) ?_
  refine lv_istore_n (lv' := [(3, .int 0), (2, .int (-1000001)), (0, .ref o), (1, .int 62)]) hx hb dX5_layMinors_19 rfl hl (by decide) rfl (fun ls hl => ?_)
  refine lv_iload_n hx hb dX5_layMinors_20 rfl (lv_at hl 0 rfl) ?_
  refine lv_bipush (v := 6) hx hb dX5_layMinors_21 (by decide) ?_
  refine lv_icmp_ge (tgt := 52) hx hb dX5_layMinors_23 (by decide) (fun h => absurd h (by decide)) (fun _ => ?_)
  refine lv_iload_n hx hb dX5_layMinors_26 rfl (lv_at hl 1 rfl) ?_
  refine lv_ldc hx hb hown k_3 dX5_layMinors_27 ?_
  refine lv_icmp_ne (tgt := 36) hx hb dX5_layMinors_29 (by decide) (fun h => absurd (by decide) h) (fun _ => ?_)
  refine lv_iconst (v := (-1)) hx hb dX5_layMinors_32 (by decide) ?_
  refine lv_goto (tgt := 37) hx hb dX5_layMinors_33 (by decide) ?_
  refine lv_istore_n (lv' := [(2, .int (-1)), (3, .int 0), (0, .ref o), (1, .int 62)]) hx hb dX5_layMinors_37 rfl hl (by decide) rfl (fun ls hl => ?_)
  refine lv_iload_n hx hb dX5_layMinors_38 rfl (lv_at hl 0 rfl) ?_
  refine lv_iload_n hx hb dX5_layMinors_39 rfl (lv_at hl 3 rfl) ?_
  refine lv_iload_n hx hb dX5_layMinors_40 rfl (lv_at hl 1 rfl) ?_
  refine lv_ishr hx hb dX5_layMinors_41 ?_
  refine lv_eqi (v := 62) (by decide) ?_
  refine lv_iconst (v := 1) hx hb dX5_layMinors_42 (by decide) ?_
  refine lv_iand hx hb dX5_layMinors_43 ?_
  refine lv_eqi (v := 0) (by decide) ?_
  refine lv_iadd hx hb dX5_layMinors_44 ?_
  refine lv_eqi (v := (-1)) (by decide) ?_
  refine lv_istore_n (lv' := [(2, .int (-1)), (3, .int 0), (0, .ref o), (1, .int 62)]) hx hb dX5_layMinors_45 rfl hl (by decide) rfl (fun ls hl => ?_)
  refine lv_iinc (v := 1) (lv' := [(3, .int 1), (2, .int (-1)), (0, .ref o), (1, .int 62)]) hx hb dX5_layMinors_46 hl (k := 1) rfl (by decide) (by decide) rfl (fun ls hl => ?_)
  refine lv_goto (tgt := 20) hx hb dX5_layMinors_49 (by decide) ?_
  refine lv_iload_n hx hb dX5_layMinors_20 rfl (lv_at hl 0 rfl) ?_
  refine lv_bipush (v := 6) hx hb dX5_layMinors_21 (by decide) ?_
  refine lv_icmp_ge (tgt := 52) hx hb dX5_layMinors_23 (by decide) (fun h => absurd h (by decide)) (fun _ => ?_)
  refine lv_iload_n hx hb dX5_layMinors_26 rfl (lv_at hl 1 rfl) ?_
  refine lv_ldc hx hb hown k_3 dX5_layMinors_27 ?_
  refine lv_icmp_ne (tgt := 36) hx hb dX5_layMinors_29 (by decide) (fun _ => ?_) (fun h => absurd h (by decide))
  refine lv_iload_n hx hb dX5_layMinors_36 rfl (lv_at hl 1 rfl) ?_
  refine lv_istore_n (lv' := [(2, .int (-1)), (3, .int 1), (0, .ref o), (1, .int 62)]) hx hb dX5_layMinors_37 rfl hl (by decide) rfl (fun ls hl => ?_)
  refine lv_iload_n hx hb dX5_layMinors_38 rfl (lv_at hl 0 rfl) ?_
  refine lv_iload_n hx hb dX5_layMinors_39 rfl (lv_at hl 3 rfl) ?_
  refine lv_iload_n hx hb dX5_layMinors_40 rfl (lv_at hl 1 rfl) ?_
  refine lv_ishr hx hb dX5_layMinors_41 ?_
  refine lv_eqi (v := 31) (by decide) ?_
  refine lv_iconst (v := 1) hx hb dX5_layMinors_42 (by decide) ?_
  refine lv_iand hx hb dX5_layMinors_43 ?_
  refine lv_eqi (v := 1) (by decide) ?_
  refine lv_iadd hx hb dX5_layMinors_44 ?_
  refine lv_eqi (v := 0) (by decide) ?_
  refine lv_istore_n (lv' := [(2, .int 0), (3, .int 1), (0, .ref o), (1, .int 62)]) hx hb dX5_layMinors_45 rfl hl (by decide) rfl (fun ls hl => ?_)
  refine lv_iinc (v := 2) (lv' := [(3, .int 2), (2, .int 0), (0, .ref o), (1, .int 62)]) hx hb dX5_layMinors_46 hl (k := 1) rfl (by decide) (by decide) rfl (fun ls hl => ?_)
  refine lv_goto (tgt := 20) hx hb dX5_layMinors_49 (by decide) ?_
  refine lv_iload_n hx hb dX5_layMinors_20 rfl (lv_at hl 0 rfl) ?_
  refine lv_bipush (v := 6) hx hb dX5_layMinors_21 (by decide) ?_
  refine lv_icmp_ge (tgt := 52) hx hb dX5_layMinors_23 (by decide) (fun h => absurd h (by decide)) (fun _ => ?_)
  refine lv_iload_n hx hb dX5_layMinors_26 rfl (lv_at hl 1 rfl) ?_
  refine lv_ldc hx hb hown k_3 dX5_layMinors_27 ?_
  refine lv_icmp_ne (tgt := 36) hx hb dX5_layMinors_29 (by decide) (fun _ => ?_) (fun h => absurd h (by decide))
  refine lv_iload_n hx hb dX5_layMinors_36 rfl (lv_at hl 1 rfl) ?_
  refine lv_istore_n (lv' := [(2, .int 0), (3, .int 2), (0, .ref o), (1, .int 62)]) hx hb dX5_layMinors_37 rfl hl (by decide) rfl (fun ls hl => ?_)
  refine lv_iload_n hx hb dX5_layMinors_38 rfl (lv_at hl 0 rfl) ?_
  refine lv_iload_n hx hb dX5_layMinors_39 rfl (lv_at hl 3 rfl) ?_
  refine lv_iload_n hx hb dX5_layMinors_40 rfl (lv_at hl 1 rfl) ?_
  refine lv_ishr hx hb dX5_layMinors_41 ?_
  refine lv_eqi (v := 15) (by decide) ?_
  refine lv_iconst (v := 1) hx hb dX5_layMinors_42 (by decide) ?_
  refine lv_iand hx hb dX5_layMinors_43 ?_
  refine lv_eqi (v := 1) (by decide) ?_
  refine lv_iadd hx hb dX5_layMinors_44 ?_
  refine lv_eqi (v := 1) (by decide) ?_
  refine lv_istore_n (lv' := [(2, .int 1), (3, .int 2), (0, .ref o), (1, .int 62)]) hx hb dX5_layMinors_45 rfl hl (by decide) rfl (fun ls hl => ?_)
  refine lv_iinc (v := 3) (lv' := [(3, .int 3), (2, .int 1), (0, .ref o), (1, .int 62)]) hx hb dX5_layMinors_46 hl (k := 1) rfl (by decide) (by decide) rfl (fun ls hl => ?_)
  refine lv_goto (tgt := 20) hx hb dX5_layMinors_49 (by decide) ?_
  refine lv_iload_n hx hb dX5_layMinors_20 rfl (lv_at hl 0 rfl) ?_
  refine lv_bipush (v := 6) hx hb dX5_layMinors_21 (by decide) ?_
  refine lv_icmp_ge (tgt := 52) hx hb dX5_layMinors_23 (by decide) (fun h => absurd h (by decide)) (fun _ => ?_)
  refine lv_iload_n hx hb dX5_layMinors_26 rfl (lv_at hl 1 rfl) ?_
  refine lv_ldc hx hb hown k_3 dX5_layMinors_27 ?_
  refine lv_icmp_ne (tgt := 36) hx hb dX5_layMinors_29 (by decide) (fun _ => ?_) (fun h => absurd h (by decide))
  refine lv_iload_n hx hb dX5_layMinors_36 rfl (lv_at hl 1 rfl) ?_
  refine lv_istore_n (lv' := [(2, .int 1), (3, .int 3), (0, .ref o), (1, .int 62)]) hx hb dX5_layMinors_37 rfl hl (by decide) rfl (fun ls hl => ?_)
  refine lv_iload_n hx hb dX5_layMinors_38 rfl (lv_at hl 0 rfl) ?_
  refine lv_iload_n hx hb dX5_layMinors_39 rfl (lv_at hl 3 rfl) ?_
  refine lv_iload_n hx hb dX5_layMinors_40 rfl (lv_at hl 1 rfl) ?_
  refine lv_ishr hx hb dX5_layMinors_41 ?_
  refine lv_eqi (v := 7) (by decide) ?_
  refine lv_iconst (v := 1) hx hb dX5_layMinors_42 (by decide) ?_
  refine lv_iand hx hb dX5_layMinors_43 ?_
  refine lv_eqi (v := 1) (by decide) ?_
  refine lv_iadd hx hb dX5_layMinors_44 ?_
  refine lv_eqi (v := 2) (by decide) ?_
  refine lv_istore_n (lv' := [(2, .int 2), (3, .int 3), (0, .ref o), (1, .int 62)]) hx hb dX5_layMinors_45 rfl hl (by decide) rfl (fun ls hl => ?_)
  refine lv_iinc (v := 4) (lv' := [(3, .int 4), (2, .int 2), (0, .ref o), (1, .int 62)]) hx hb dX5_layMinors_46 hl (k := 1) rfl (by decide) (by decide) rfl (fun ls hl => ?_)
  refine lv_goto (tgt := 20) hx hb dX5_layMinors_49 (by decide) ?_
  refine lv_iload_n hx hb dX5_layMinors_20 rfl (lv_at hl 0 rfl) ?_
  refine lv_bipush (v := 6) hx hb dX5_layMinors_21 (by decide) ?_
  refine lv_icmp_ge (tgt := 52) hx hb dX5_layMinors_23 (by decide) (fun h => absurd h (by decide)) (fun _ => ?_)
  refine lv_iload_n hx hb dX5_layMinors_26 rfl (lv_at hl 1 rfl) ?_
  refine lv_ldc hx hb hown k_3 dX5_layMinors_27 ?_
  refine lv_icmp_ne (tgt := 36) hx hb dX5_layMinors_29 (by decide) (fun _ => ?_) (fun h => absurd h (by decide))
  refine lv_iload_n hx hb dX5_layMinors_36 rfl (lv_at hl 1 rfl) ?_
  refine lv_istore_n (lv' := [(2, .int 2), (3, .int 4), (0, .ref o), (1, .int 62)]) hx hb dX5_layMinors_37 rfl hl (by decide) rfl (fun ls hl => ?_)
  refine lv_iload_n hx hb dX5_layMinors_38 rfl (lv_at hl 0 rfl) ?_
  refine lv_iload_n hx hb dX5_layMinors_39 rfl (lv_at hl 3 rfl) ?_
  refine lv_iload_n hx hb dX5_layMinors_40 rfl (lv_at hl 1 rfl) ?_
  refine lv_ishr hx hb dX5_layMinors_41 ?_
  refine lv_eqi (v := 3) (by decide) ?_
  refine lv_iconst (v := 1) hx hb dX5_layMinors_42 (by decide) ?_
  refine lv_iand hx hb dX5_layMinors_43 ?_
  refine lv_eqi (v := 1) (by decide) ?_
  refine lv_iadd hx hb dX5_layMinors_44 ?_
  refine lv_eqi (v := 3) (by decide) ?_
  refine lv_istore_n (lv' := [(2, .int 3), (3, .int 4), (0, .ref o), (1, .int 62)]) hx hb dX5_layMinors_45 rfl hl (by decide) rfl (fun ls hl => ?_)
  refine lv_iinc (v := 5) (lv' := [(3, .int 5), (2, .int 3), (0, .ref o), (1, .int 62)]) hx hb dX5_layMinors_46 hl (k := 1) rfl (by decide) (by decide) rfl (fun ls hl => ?_)
  refine lv_goto (tgt := 20) hx hb dX5_layMinors_49 (by decide) ?_
  refine lv_iload_n hx hb dX5_layMinors_20 rfl (lv_at hl 0 rfl) ?_
  refine lv_bipush (v := 6) hx hb dX5_layMinors_21 (by decide) ?_
  refine lv_icmp_ge (tgt := 52) hx hb dX5_layMinors_23 (by decide) (fun h => absurd h (by decide)) (fun _ => ?_)
  refine lv_iload_n hx hb dX5_layMinors_26 rfl (lv_at hl 1 rfl) ?_
  refine lv_ldc hx hb hown k_3 dX5_layMinors_27 ?_
  refine lv_icmp_ne (tgt := 36) hx hb dX5_layMinors_29 (by decide) (fun _ => ?_) (fun h => absurd h (by decide))
  refine lv_iload_n hx hb dX5_layMinors_36 rfl (lv_at hl 1 rfl) ?_
  refine lv_istore_n (lv' := [(2, .int 3), (3, .int 5), (0, .ref o), (1, .int 62)]) hx hb dX5_layMinors_37 rfl hl (by decide) rfl (fun ls hl => ?_)
  refine lv_iload_n hx hb dX5_layMinors_38 rfl (lv_at hl 0 rfl) ?_
  refine lv_iload_n hx hb dX5_layMinors_39 rfl (lv_at hl 3 rfl) ?_
  refine lv_iload_n hx hb dX5_layMinors_40 rfl (lv_at hl 1 rfl) ?_
  refine lv_ishr hx hb dX5_layMinors_41 ?_
  refine lv_eqi (v := 1) (by decide) ?_
  refine lv_iconst (v := 1) hx hb dX5_layMinors_42 (by decide) ?_
  refine lv_iand hx hb dX5_layMinors_43 ?_
  refine lv_eqi (v := 1) (by decide) ?_
  refine lv_iadd hx hb dX5_layMinors_44 ?_
  refine lv_eqi (v := 4) (by decide) ?_
  refine lv_istore_n (lv' := [(2, .int 4), (3, .int 5), (0, .ref o), (1, .int 62)]) hx hb dX5_layMinors_45 rfl hl (by decide) rfl (fun ls hl => ?_)
  refine lv_iinc (v := 6) (lv' := [(3, .int 6), (2, .int 4), (0, .ref o), (1, .int 62)]) hx hb dX5_layMinors_46 hl (k := 1) rfl (by decide) (by decide) rfl (fun ls hl => ?_)
  refine lv_goto (tgt := 20) hx hb dX5_layMinors_49 (by decide) ?_
  refine lv_iload_n hx hb dX5_layMinors_20 rfl (lv_at hl 0 rfl) ?_
  refine lv_bipush (v := 6) hx hb dX5_layMinors_21 (by decide) ?_
  refine lv_icmp_ge (tgt := 52) hx hb dX5_layMinors_23 (by decide) (fun _ => ?_) (fun h => absurd (by decide) h)
  refine lv_lconst (v := 0) hx hb dX5_layMinors_52 (by decide) ?_
  refine lv_lstore_n (lv' := [(3, .long 0), (2, .int 4), (0, .ref o), (1, .int 62)]) hx hb dX5_layMinors_53 rfl hl (by decide) rfl (fun ls hl => ?_)
  refine lv_iload_n hx hb dX5_layMinors_54 rfl (lv_at hl 1 rfl) ?_
  refine lv_istore (lv' := [(5, .int 4), (3, .long 0), (2, .int 4), (0, .ref o), (1, .int 62)]) hx hb dX5_layMinors_55 hl (by decide) rfl (fun ls hl => ?_)
  refine lv_iconst (v := 0) hx hb dX5_layMinors_57 (by decide) ?_
  refine lv_istore (lv' := [(6, .int 0), (5, .int 4), (3, .long 0), (2, .int 4), (0, .ref o), (1, .int 62)]) hx hb dX5_layMinors_58 hl (by decide) rfl (fun ls hl => ?_)
  refine lv_iload hx hb dX5_layMinors_60 (lv_at hl 0 rfl) ?_
  refine lv_bipush (v := 6) hx hb dX5_layMinors_62 (by decide) ?_
  refine lv_icmp_ge (tgt := 135) hx hb dX5_layMinors_64 (by decide) (fun h => absurd h (by decide)) (fun _ => ?_)
  refine lv_iload_n hx hb dX5_layMinors_67 rfl (lv_at hl 3 rfl) ?_
  refine lv_iconst (v := 5) hx hb dX5_layMinors_68 (by decide) ?_
  refine lv_icmp_ge (tgt := 135) hx hb dX5_layMinors_69 (by decide) (fun h => absurd h (by decide)) (fun _ => ?_)
  refine lv_iload_n hx hb dX5_layMinors_72 rfl (lv_at hl 5 rfl) ?_
  refine lv_iload hx hb dX5_layMinors_73 (lv_at hl 0 rfl) ?_
  refine lv_ishr hx hb dX5_layMinors_75 ?_
  refine lv_eqi (v := 62) (by decide) ?_
  refine lv_iconst (v := 1) hx hb dX5_layMinors_76 (by decide) ?_
  refine lv_iand hx hb dX5_layMinors_77 ?_
  refine lv_eqi (v := 0) (by decide) ?_
  refine lv_iconst (v := 1) hx hb dX5_layMinors_78 (by decide) ?_
  refine lv_icmp_ne (tgt := 129) hx hb dX5_layMinors_79 (by decide) (fun _ => ?_) (fun h => absurd h (by decide))
  refine lv_iinc (v := 1) (lv' := [(6, .int 1), (5, .int 4), (3, .long 0), (2, .int 4), (0, .ref o), (1, .int 62)]) hx hb dX5_layMinors_129 hl (k := 0) rfl (by decide) (by decide) rfl (fun ls hl => ?_)
  refine lv_goto (tgt := 60) hx hb dX5_layMinors_132 (by decide) ?_
  refine lv_iload hx hb dX5_layMinors_60 (lv_at hl 0 rfl) ?_
  refine lv_bipush (v := 6) hx hb dX5_layMinors_62 (by decide) ?_
  refine lv_icmp_ge (tgt := 135) hx hb dX5_layMinors_64 (by decide) (fun h => absurd h (by decide)) (fun _ => ?_)
  refine lv_iload_n hx hb dX5_layMinors_67 rfl (lv_at hl 3 rfl) ?_
  refine lv_iconst (v := 5) hx hb dX5_layMinors_68 (by decide) ?_
  refine lv_icmp_ge (tgt := 135) hx hb dX5_layMinors_69 (by decide) (fun h => absurd h (by decide)) (fun _ => ?_)
  refine lv_iload_n hx hb dX5_layMinors_72 rfl (lv_at hl 5 rfl) ?_
  refine lv_iload hx hb dX5_layMinors_73 (lv_at hl 0 rfl) ?_
  refine lv_ishr hx hb dX5_layMinors_75 ?_
  refine lv_eqi (v := 31) (by decide) ?_
  refine lv_iconst (v := 1) hx hb dX5_layMinors_76 (by decide) ?_
  refine lv_iand hx hb dX5_layMinors_77 ?_
  refine lv_eqi (v := 1) (by decide) ?_
  refine lv_iconst (v := 1) hx hb dX5_layMinors_78 (by decide) ?_
  refine lv_icmp_ne (tgt := 129) hx hb dX5_layMinors_79 (by decide) (fun h => absurd (by decide) h) (fun _ => ?_)
  refine lv_aload_n hx hb dX5_layMinors_82 rfl (lv_at hl 4 rfl) ?_
  refine va_get (D := D) (ci := 5) (v := .ref mR) (C := RX5) (T := TX5) (N := 17) hx hb hts k_2 hown hK.1 hP 0 rfl rfl 5 (by decide) k_4 (fun _ h9 => h9) rfl dX5_layMinors_83 ?_
  refine lv_bipush (v := 6) hx hb dX5_layMinors_86 (by decide) ?_
  refine lv_iload_n hx hb dX5_layMinors_88 rfl (lv_at hl 3 rfl) ?_
  refine lv_imul hx hb dX5_layMinors_89 ?_
  refine lv_eqi (v := 24) (by decide) ?_
  refine lv_iload hx hb dX5_layMinors_90 (lv_at hl 0 rfl) ?_
  refine lv_iadd hx hb dX5_layMinors_92 ?_
  refine lv_eqi (v := 25) (by decide) ?_
  refine ld_l hx hb hK.1 hP 1 1 rfl rfl (ix_lit (by decide)) 25 (by decide) (v := fr 25) rfl dX5_layMinors_93 ?_
  refine lv_aload_n hx hb dX5_layMinors_94 rfl (lv_at hl 4 rfl) ?_
  refine va_get (D := D) (ci := 5) (v := .ref mD) (C := RX5) (T := TX5) (N := 17) hx hb hts k_2 hown hK.1 hP 0 rfl rfl 6 (by decide) k_1 (fun _ h9 => h9) rfl dX5_layMinors_95 ?_
  refine lv_iload_n hx hb dX5_layMinors_98 rfl (lv_at hl 5 rfl) ?_
  refine lv_iconst (v := 1) hx hb dX5_layMinors_99 (by decide) ?_
  refine lv_iload hx hb dX5_layMinors_100 (lv_at hl 0 rfl) ?_
  refine lv_ishl hx hb dX5_layMinors_102 ?_
  refine lv_eqi (v := 2) (by decide) ?_
  refine lv_isub hx hb dX5_layMinors_103 ?_
  refine lv_eqi (v := 60) (by decide) ?_
  refine ld_l hx hb hK.1 hP 2 1 rfl rfl (ix_lit (by decide)) 60 (by decide) (v := z5_mw60 fr) rfl dX5_layMinors_104 ?_
  refine lv_lmul hx hb dX5_layMinors_105 ?_
  refine lv_lstore (lv' := [(7, .long ((fr 25) * (z5_mw60 fr))), (6, .int 1), (5, .int 4), (3, .long 0), (2, .int 4), (0, .ref o), (1, .int 62)]) hx hb dX5_layMinors_106 hl (by decide) rfl (fun ls hl => ?_)
  refine lv_lload_n hx hb dX5_layMinors_108 rfl (lv_at hl 3 rfl) ?_
  refine lv_iload hx hb dX5_layMinors_109 (lv_at hl 2 rfl) ?_
  refine lv_iconst (v := 2) hx hb dX5_layMinors_111 (by decide) ?_
  refine lv_irem hx hb dX5_layMinors_112 (by decide) ?_
  refine lv_eqi (v := 0) (by decide) ?_
  refine lv_if_ne (tgt := 121) hx hb dX5_layMinors_113 (by decide) (fun h => absurd (by decide) h) (fun _ => ?_)
  refine lv_lload hx hb dX5_layMinors_116 (lv_at hl 0 rfl) ?_
  refine lv_goto (tgt := 124) hx hb dX5_layMinors_118 (by decide) ?_
  refine lv_ladd hx hb dX5_layMinors_124 ?_
  refine lv_lstore_n (lv' := [(3, .long (0 + ((fr 25) * (z5_mw60 fr)))), (7, .long ((fr 25) * (z5_mw60 fr))), (6, .int 1), (5, .int 4), (2, .int 4), (0, .ref o), (1, .int 62)]) hx hb dX5_layMinors_125 rfl hl (by decide) rfl (fun ls hl => ?_)
  refine lv_iinc (v := 3) (lv' := [(5, .int 3), (3, .long (0 + ((fr 25) * (z5_mw60 fr)))), (7, .long ((fr 25) * (z5_mw60 fr))), (6, .int 1), (2, .int 4), (0, .ref o), (1, .int 62)]) hx hb dX5_layMinors_126 hl (k := 3) rfl (by decide) (by decide) rfl (fun ls hl => ?_)
  refine lv_iinc (v := 2) (lv' := [(6, .int 2), (5, .int 3), (3, .long (0 + ((fr 25) * (z5_mw60 fr)))), (7, .long ((fr 25) * (z5_mw60 fr))), (2, .int 4), (0, .ref o), (1, .int 62)]) hx hb dX5_layMinors_129 hl (k := 3) rfl (by decide) (by decide) rfl (fun ls hl => ?_)
  refine lv_goto (tgt := 60) hx hb dX5_layMinors_132 (by decide) ?_
  refine lv_iload hx hb dX5_layMinors_60 (lv_at hl 0 rfl) ?_
  refine lv_bipush (v := 6) hx hb dX5_layMinors_62 (by decide) ?_
  refine lv_icmp_ge (tgt := 135) hx hb dX5_layMinors_64 (by decide) (fun h => absurd h (by decide)) (fun _ => ?_)
  refine lv_iload_n hx hb dX5_layMinors_67 rfl (lv_at hl 4 rfl) ?_
  refine lv_iconst (v := 5) hx hb dX5_layMinors_68 (by decide) ?_
  refine lv_icmp_ge (tgt := 135) hx hb dX5_layMinors_69 (by decide) (fun h => absurd h (by decide)) (fun _ => ?_)
  refine lv_iload_n hx hb dX5_layMinors_72 rfl (lv_at hl 6 rfl) ?_
  refine lv_iload hx hb dX5_layMinors_73 (lv_at hl 0 rfl) ?_
  refine lv_ishr hx hb dX5_layMinors_75 ?_
  refine lv_eqi (v := 15) (by decide) ?_
  refine lv_iconst (v := 1) hx hb dX5_layMinors_76 (by decide) ?_
  refine lv_iand hx hb dX5_layMinors_77 ?_
  refine lv_eqi (v := 1) (by decide) ?_
  refine lv_iconst (v := 1) hx hb dX5_layMinors_78 (by decide) ?_
  refine lv_icmp_ne (tgt := 129) hx hb dX5_layMinors_79 (by decide) (fun h => absurd (by decide) h) (fun _ => ?_)
  refine lv_aload_n hx hb dX5_layMinors_82 rfl (lv_at hl 5 rfl) ?_
  refine va_get (D := D) (ci := 5) (v := .ref mR) (C := RX5) (T := TX5) (N := 17) hx hb hts k_2 hown hK.1 hP 0 rfl rfl 5 (by decide) k_4 (fun _ h9 => h9) rfl dX5_layMinors_83 ?_
  refine lv_bipush (v := 6) hx hb dX5_layMinors_86 (by decide) ?_
  refine lv_iload_n hx hb dX5_layMinors_88 rfl (lv_at hl 4 rfl) ?_
  refine lv_imul hx hb dX5_layMinors_89 ?_
  refine lv_eqi (v := 24) (by decide) ?_
  refine lv_iload hx hb dX5_layMinors_90 (lv_at hl 0 rfl) ?_
  refine lv_iadd hx hb dX5_layMinors_92 ?_
  refine lv_eqi (v := 26) (by decide) ?_
  refine ld_l hx hb hK.1 hP 1 1 rfl rfl (ix_lit (by decide)) 26 (by decide) (v := fr 26) rfl dX5_layMinors_93 ?_
  refine lv_aload_n hx hb dX5_layMinors_94 rfl (lv_at hl 5 rfl) ?_
  refine va_get (D := D) (ci := 5) (v := .ref mD) (C := RX5) (T := TX5) (N := 17) hx hb hts k_2 hown hK.1 hP 0 rfl rfl 6 (by decide) k_1 (fun _ h9 => h9) rfl dX5_layMinors_95 ?_
  refine lv_iload_n hx hb dX5_layMinors_98 rfl (lv_at hl 6 rfl) ?_
  refine lv_iconst (v := 1) hx hb dX5_layMinors_99 (by decide) ?_
  refine lv_iload hx hb dX5_layMinors_100 (lv_at hl 0 rfl) ?_
  refine lv_ishl hx hb dX5_layMinors_102 ?_
  refine lv_eqi (v := 4) (by decide) ?_
  refine lv_isub hx hb dX5_layMinors_103 ?_
  refine lv_eqi (v := 58) (by decide) ?_
  refine ld_l hx hb hK.1 hP 2 1 rfl rfl (ix_lit (by decide)) 58 (by decide) (v := z5_mw58 fr) rfl dX5_layMinors_104 ?_
  refine lv_lmul hx hb dX5_layMinors_105 ?_
  refine lv_lstore (lv' := [(7, .long ((fr 26) * (z5_mw58 fr))), (6, .int 2), (5, .int 3), (3, .long (0 + ((fr 25) * (z5_mw60 fr)))), (2, .int 4), (0, .ref o), (1, .int 62)]) hx hb dX5_layMinors_106 hl (by decide) rfl (fun ls hl => ?_)
  refine lv_lload_n hx hb dX5_layMinors_108 rfl (lv_at hl 3 rfl) ?_
  refine lv_iload hx hb dX5_layMinors_109 (lv_at hl 2 rfl) ?_
  refine lv_iconst (v := 2) hx hb dX5_layMinors_111 (by decide) ?_
  refine lv_irem hx hb dX5_layMinors_112 (by decide) ?_
  refine lv_eqi (v := 1) (by decide) ?_
  refine lv_if_ne (tgt := 121) hx hb dX5_layMinors_113 (by decide) (fun _ => ?_) (fun h => absurd h (by decide))
  refine lv_lload hx hb dX5_layMinors_121 (lv_at hl 0 rfl) ?_
  refine lv_lneg hx hb dX5_layMinors_123 ?_
  refine lv_ladd hx hb dX5_layMinors_124 ?_
  refine lv_lstore_n (lv' := [(3, .long ((0 + ((fr 25) * (z5_mw60 fr))) + (-((fr 26) * (z5_mw58 fr))))), (7, .long ((fr 26) * (z5_mw58 fr))), (6, .int 2), (5, .int 3), (2, .int 4), (0, .ref o), (1, .int 62)]) hx hb dX5_layMinors_125 rfl hl (by decide) rfl (fun ls hl => ?_)
  refine lv_iinc (v := 2) (lv' := [(5, .int 2), (3, .long ((0 + ((fr 25) * (z5_mw60 fr))) + (-((fr 26) * (z5_mw58 fr))))), (7, .long ((fr 26) * (z5_mw58 fr))), (6, .int 2), (2, .int 4), (0, .ref o), (1, .int 62)]) hx hb dX5_layMinors_126 hl (k := 3) rfl (by decide) (by decide) rfl (fun ls hl => ?_)
  refine lv_iinc (v := 3) (lv' := [(6, .int 3), (5, .int 2), (3, .long ((0 + ((fr 25) * (z5_mw60 fr))) + (-((fr 26) * (z5_mw58 fr))))), (7, .long ((fr 26) * (z5_mw58 fr))), (2, .int 4), (0, .ref o), (1, .int 62)]) hx hb dX5_layMinors_129 hl (k := 3) rfl (by decide) (by decide) rfl (fun ls hl => ?_)
  refine lv_goto (tgt := 60) hx hb dX5_layMinors_132 (by decide) ?_
  refine lv_iload hx hb dX5_layMinors_60 (lv_at hl 0 rfl) ?_
  refine lv_bipush (v := 6) hx hb dX5_layMinors_62 (by decide) ?_
  refine lv_icmp_ge (tgt := 135) hx hb dX5_layMinors_64 (by decide) (fun h => absurd h (by decide)) (fun _ => ?_)
  refine lv_iload_n hx hb dX5_layMinors_67 rfl (lv_at hl 4 rfl) ?_
  refine lv_iconst (v := 5) hx hb dX5_layMinors_68 (by decide) ?_
  refine lv_icmp_ge (tgt := 135) hx hb dX5_layMinors_69 (by decide) (fun h => absurd h (by decide)) (fun _ => ?_)
  refine lv_iload_n hx hb dX5_layMinors_72 rfl (lv_at hl 6 rfl) ?_
  refine lv_iload hx hb dX5_layMinors_73 (lv_at hl 0 rfl) ?_
  refine lv_ishr hx hb dX5_layMinors_75 ?_
  refine lv_eqi (v := 7) (by decide) ?_
  refine lv_iconst (v := 1) hx hb dX5_layMinors_76 (by decide) ?_
  refine lv_iand hx hb dX5_layMinors_77 ?_
  refine lv_eqi (v := 1) (by decide) ?_
  refine lv_iconst (v := 1) hx hb dX5_layMinors_78 (by decide) ?_
  refine lv_icmp_ne (tgt := 129) hx hb dX5_layMinors_79 (by decide) (fun h => absurd (by decide) h) (fun _ => ?_)
  refine lv_aload_n hx hb dX5_layMinors_82 rfl (lv_at hl 5 rfl) ?_
  refine va_get (D := D) (ci := 5) (v := .ref mR) (C := RX5) (T := TX5) (N := 17) hx hb hts k_2 hown hK.1 hP 0 rfl rfl 5 (by decide) k_4 (fun _ h9 => h9) rfl dX5_layMinors_83 ?_
  refine lv_bipush (v := 6) hx hb dX5_layMinors_86 (by decide) ?_
  refine lv_iload_n hx hb dX5_layMinors_88 rfl (lv_at hl 4 rfl) ?_
  refine lv_imul hx hb dX5_layMinors_89 ?_
  refine lv_eqi (v := 24) (by decide) ?_
  refine lv_iload hx hb dX5_layMinors_90 (lv_at hl 0 rfl) ?_
  refine lv_iadd hx hb dX5_layMinors_92 ?_
  refine lv_eqi (v := 27) (by decide) ?_
  refine ld_l hx hb hK.1 hP 1 1 rfl rfl (ix_lit (by decide)) 27 (by decide) (v := fr 27) rfl dX5_layMinors_93 ?_
  refine lv_aload_n hx hb dX5_layMinors_94 rfl (lv_at hl 5 rfl) ?_
  refine va_get (D := D) (ci := 5) (v := .ref mD) (C := RX5) (T := TX5) (N := 17) hx hb hts k_2 hown hK.1 hP 0 rfl rfl 6 (by decide) k_1 (fun _ h9 => h9) rfl dX5_layMinors_95 ?_
  refine lv_iload_n hx hb dX5_layMinors_98 rfl (lv_at hl 6 rfl) ?_
  refine lv_iconst (v := 1) hx hb dX5_layMinors_99 (by decide) ?_
  refine lv_iload hx hb dX5_layMinors_100 (lv_at hl 0 rfl) ?_
  refine lv_ishl hx hb dX5_layMinors_102 ?_
  refine lv_eqi (v := 8) (by decide) ?_
  refine lv_isub hx hb dX5_layMinors_103 ?_
  refine lv_eqi (v := 54) (by decide) ?_
  refine ld_l hx hb hK.1 hP 2 1 rfl rfl (ix_lit (by decide)) 54 (by decide) (v := z5_mw54 fr) rfl dX5_layMinors_104 ?_
  refine lv_lmul hx hb dX5_layMinors_105 ?_
  refine lv_lstore (lv' := [(7, .long ((fr 27) * (z5_mw54 fr))), (6, .int 3), (5, .int 2), (3, .long ((0 + ((fr 25) * (z5_mw60 fr))) + (-((fr 26) * (z5_mw58 fr))))), (2, .int 4), (0, .ref o), (1, .int 62)]) hx hb dX5_layMinors_106 hl (by decide) rfl (fun ls hl => ?_)
  refine lv_lload_n hx hb dX5_layMinors_108 rfl (lv_at hl 3 rfl) ?_
  refine lv_iload hx hb dX5_layMinors_109 (lv_at hl 2 rfl) ?_
  refine lv_iconst (v := 2) hx hb dX5_layMinors_111 (by decide) ?_
  refine lv_irem hx hb dX5_layMinors_112 (by decide) ?_
  refine lv_eqi (v := 0) (by decide) ?_
  refine lv_if_ne (tgt := 121) hx hb dX5_layMinors_113 (by decide) (fun h => absurd (by decide) h) (fun _ => ?_)
  refine lv_lload hx hb dX5_layMinors_116 (lv_at hl 0 rfl) ?_
  refine lv_goto (tgt := 124) hx hb dX5_layMinors_118 (by decide) ?_
  refine lv_ladd hx hb dX5_layMinors_124 ?_
  refine lv_lstore_n (lv' := [(3, .long (((0 + ((fr 25) * (z5_mw60 fr))) + (-((fr 26) * (z5_mw58 fr)))) + ((fr 27) * (z5_mw54 fr)))), (7, .long ((fr 27) * (z5_mw54 fr))), (6, .int 3), (5, .int 2), (2, .int 4), (0, .ref o), (1, .int 62)]) hx hb dX5_layMinors_125 rfl hl (by decide) rfl (fun ls hl => ?_)
  refine lv_iinc (v := 1) (lv' := [(5, .int 1), (3, .long (((0 + ((fr 25) * (z5_mw60 fr))) + (-((fr 26) * (z5_mw58 fr)))) + ((fr 27) * (z5_mw54 fr)))), (7, .long ((fr 27) * (z5_mw54 fr))), (6, .int 3), (2, .int 4), (0, .ref o), (1, .int 62)]) hx hb dX5_layMinors_126 hl (k := 3) rfl (by decide) (by decide) rfl (fun ls hl => ?_)
  refine lv_iinc (v := 4) (lv' := [(6, .int 4), (5, .int 1), (3, .long (((0 + ((fr 25) * (z5_mw60 fr))) + (-((fr 26) * (z5_mw58 fr)))) + ((fr 27) * (z5_mw54 fr)))), (7, .long ((fr 27) * (z5_mw54 fr))), (2, .int 4), (0, .ref o), (1, .int 62)]) hx hb dX5_layMinors_129 hl (k := 3) rfl (by decide) (by decide) rfl (fun ls hl => ?_)
  refine lv_goto (tgt := 60) hx hb dX5_layMinors_132 (by decide) ?_
  refine lv_iload hx hb dX5_layMinors_60 (lv_at hl 0 rfl) ?_
  refine lv_bipush (v := 6) hx hb dX5_layMinors_62 (by decide) ?_
  refine lv_icmp_ge (tgt := 135) hx hb dX5_layMinors_64 (by decide) (fun h => absurd h (by decide)) (fun _ => ?_)
  refine lv_iload_n hx hb dX5_layMinors_67 rfl (lv_at hl 4 rfl) ?_
  refine lv_iconst (v := 5) hx hb dX5_layMinors_68 (by decide) ?_
  refine lv_icmp_ge (tgt := 135) hx hb dX5_layMinors_69 (by decide) (fun h => absurd h (by decide)) (fun _ => ?_)
  refine lv_iload_n hx hb dX5_layMinors_72 rfl (lv_at hl 6 rfl) ?_
  refine lv_iload hx hb dX5_layMinors_73 (lv_at hl 0 rfl) ?_
  refine lv_ishr hx hb dX5_layMinors_75 ?_
  refine lv_eqi (v := 3) (by decide) ?_
  refine lv_iconst (v := 1) hx hb dX5_layMinors_76 (by decide) ?_
  refine lv_iand hx hb dX5_layMinors_77 ?_
  refine lv_eqi (v := 1) (by decide) ?_
  refine lv_iconst (v := 1) hx hb dX5_layMinors_78 (by decide) ?_
  refine lv_icmp_ne (tgt := 129) hx hb dX5_layMinors_79 (by decide) (fun h => absurd (by decide) h) (fun _ => ?_)
  refine lv_aload_n hx hb dX5_layMinors_82 rfl (lv_at hl 5 rfl) ?_
  refine va_get (D := D) (ci := 5) (v := .ref mR) (C := RX5) (T := TX5) (N := 17) hx hb hts k_2 hown hK.1 hP 0 rfl rfl 5 (by decide) k_4 (fun _ h9 => h9) rfl dX5_layMinors_83 ?_
  refine lv_bipush (v := 6) hx hb dX5_layMinors_86 (by decide) ?_
  refine lv_iload_n hx hb dX5_layMinors_88 rfl (lv_at hl 4 rfl) ?_
  refine lv_imul hx hb dX5_layMinors_89 ?_
  refine lv_eqi (v := 24) (by decide) ?_
  refine lv_iload hx hb dX5_layMinors_90 (lv_at hl 0 rfl) ?_
  refine lv_iadd hx hb dX5_layMinors_92 ?_
  refine lv_eqi (v := 28) (by decide) ?_
  refine ld_l hx hb hK.1 hP 1 1 rfl rfl (ix_lit (by decide)) 28 (by decide) (v := fr 28) rfl dX5_layMinors_93 ?_
  refine lv_aload_n hx hb dX5_layMinors_94 rfl (lv_at hl 5 rfl) ?_
  refine va_get (D := D) (ci := 5) (v := .ref mD) (C := RX5) (T := TX5) (N := 17) hx hb hts k_2 hown hK.1 hP 0 rfl rfl 6 (by decide) k_1 (fun _ h9 => h9) rfl dX5_layMinors_95 ?_
  refine lv_iload_n hx hb dX5_layMinors_98 rfl (lv_at hl 6 rfl) ?_
  refine lv_iconst (v := 1) hx hb dX5_layMinors_99 (by decide) ?_
  refine lv_iload hx hb dX5_layMinors_100 (lv_at hl 0 rfl) ?_
  refine lv_ishl hx hb dX5_layMinors_102 ?_
  refine lv_eqi (v := 16) (by decide) ?_
  refine lv_isub hx hb dX5_layMinors_103 ?_
  refine lv_eqi (v := 46) (by decide) ?_
  refine ld_l hx hb hK.1 hP 2 1 rfl rfl (ix_lit (by decide)) 46 (by decide) (v := z5_mw46 fr) rfl dX5_layMinors_104 ?_
  refine lv_lmul hx hb dX5_layMinors_105 ?_
  refine lv_lstore (lv' := [(7, .long ((fr 28) * (z5_mw46 fr))), (6, .int 4), (5, .int 1), (3, .long (((0 + ((fr 25) * (z5_mw60 fr))) + (-((fr 26) * (z5_mw58 fr)))) + ((fr 27) * (z5_mw54 fr)))), (2, .int 4), (0, .ref o), (1, .int 62)]) hx hb dX5_layMinors_106 hl (by decide) rfl (fun ls hl => ?_)
  refine lv_lload_n hx hb dX5_layMinors_108 rfl (lv_at hl 3 rfl) ?_
  refine lv_iload hx hb dX5_layMinors_109 (lv_at hl 2 rfl) ?_
  refine lv_iconst (v := 2) hx hb dX5_layMinors_111 (by decide) ?_
  refine lv_irem hx hb dX5_layMinors_112 (by decide) ?_
  refine lv_eqi (v := 1) (by decide) ?_
  refine lv_if_ne (tgt := 121) hx hb dX5_layMinors_113 (by decide) (fun _ => ?_) (fun h => absurd h (by decide))
  refine lv_lload hx hb dX5_layMinors_121 (lv_at hl 0 rfl) ?_
  refine lv_lneg hx hb dX5_layMinors_123 ?_
  refine lv_ladd hx hb dX5_layMinors_124 ?_
  refine lv_lstore_n (lv' := [(3, .long ((((0 + ((fr 25) * (z5_mw60 fr))) + (-((fr 26) * (z5_mw58 fr)))) + ((fr 27) * (z5_mw54 fr))) + (-((fr 28) * (z5_mw46 fr))))), (7, .long ((fr 28) * (z5_mw46 fr))), (6, .int 4), (5, .int 1), (2, .int 4), (0, .ref o), (1, .int 62)]) hx hb dX5_layMinors_125 rfl hl (by decide) rfl (fun ls hl => ?_)
  refine lv_iinc (v := 0) (lv' := [(5, .int 0), (3, .long ((((0 + ((fr 25) * (z5_mw60 fr))) + (-((fr 26) * (z5_mw58 fr)))) + ((fr 27) * (z5_mw54 fr))) + (-((fr 28) * (z5_mw46 fr))))), (7, .long ((fr 28) * (z5_mw46 fr))), (6, .int 4), (2, .int 4), (0, .ref o), (1, .int 62)]) hx hb dX5_layMinors_126 hl (k := 3) rfl (by decide) (by decide) rfl (fun ls hl => ?_)
  refine lv_iinc (v := 5) (lv' := [(6, .int 5), (5, .int 0), (3, .long ((((0 + ((fr 25) * (z5_mw60 fr))) + (-((fr 26) * (z5_mw58 fr)))) + ((fr 27) * (z5_mw54 fr))) + (-((fr 28) * (z5_mw46 fr))))), (7, .long ((fr 28) * (z5_mw46 fr))), (2, .int 4), (0, .ref o), (1, .int 62)]) hx hb dX5_layMinors_129 hl (k := 3) rfl (by decide) (by decide) rfl (fun ls hl => ?_)
  refine lv_goto (tgt := 60) hx hb dX5_layMinors_132 (by decide) ?_
  refine lv_iload hx hb dX5_layMinors_60 (lv_at hl 0 rfl) ?_
  refine lv_bipush (v := 6) hx hb dX5_layMinors_62 (by decide) ?_
  refine lv_icmp_ge (tgt := 135) hx hb dX5_layMinors_64 (by decide) (fun h => absurd h (by decide)) (fun _ => ?_)
  refine lv_iload_n hx hb dX5_layMinors_67 rfl (lv_at hl 4 rfl) ?_
  refine lv_iconst (v := 5) hx hb dX5_layMinors_68 (by decide) ?_
  refine lv_icmp_ge (tgt := 135) hx hb dX5_layMinors_69 (by decide) (fun h => absurd h (by decide)) (fun _ => ?_)
  refine lv_iload_n hx hb dX5_layMinors_72 rfl (lv_at hl 6 rfl) ?_
  refine lv_iload hx hb dX5_layMinors_73 (lv_at hl 0 rfl) ?_
  refine lv_ishr hx hb dX5_layMinors_75 ?_
  refine lv_eqi (v := 1) (by decide) ?_
  refine lv_iconst (v := 1) hx hb dX5_layMinors_76 (by decide) ?_
  refine lv_iand hx hb dX5_layMinors_77 ?_
  refine lv_eqi (v := 1) (by decide) ?_
  refine lv_iconst (v := 1) hx hb dX5_layMinors_78 (by decide) ?_
  refine lv_icmp_ne (tgt := 129) hx hb dX5_layMinors_79 (by decide) (fun h => absurd (by decide) h) (fun _ => ?_)
  refine lv_aload_n hx hb dX5_layMinors_82 rfl (lv_at hl 5 rfl) ?_
  refine va_get (D := D) (ci := 5) (v := .ref mR) (C := RX5) (T := TX5) (N := 17) hx hb hts k_2 hown hK.1 hP 0 rfl rfl 5 (by decide) k_4 (fun _ h9 => h9) rfl dX5_layMinors_83 ?_
  refine lv_bipush (v := 6) hx hb dX5_layMinors_86 (by decide) ?_
  refine lv_iload_n hx hb dX5_layMinors_88 rfl (lv_at hl 4 rfl) ?_
  refine lv_imul hx hb dX5_layMinors_89 ?_
  refine lv_eqi (v := 24) (by decide) ?_
  refine lv_iload hx hb dX5_layMinors_90 (lv_at hl 0 rfl) ?_
  refine lv_iadd hx hb dX5_layMinors_92 ?_
  refine lv_eqi (v := 29) (by decide) ?_
  refine ld_l hx hb hK.1 hP 1 1 rfl rfl (ix_lit (by decide)) 29 (by decide) (v := fr 29) rfl dX5_layMinors_93 ?_
  refine lv_aload_n hx hb dX5_layMinors_94 rfl (lv_at hl 5 rfl) ?_
  refine va_get (D := D) (ci := 5) (v := .ref mD) (C := RX5) (T := TX5) (N := 17) hx hb hts k_2 hown hK.1 hP 0 rfl rfl 6 (by decide) k_1 (fun _ h9 => h9) rfl dX5_layMinors_95 ?_
  refine lv_iload_n hx hb dX5_layMinors_98 rfl (lv_at hl 6 rfl) ?_
  refine lv_iconst (v := 1) hx hb dX5_layMinors_99 (by decide) ?_
  refine lv_iload hx hb dX5_layMinors_100 (lv_at hl 0 rfl) ?_
  refine lv_ishl hx hb dX5_layMinors_102 ?_
  refine lv_eqi (v := 32) (by decide) ?_
  refine lv_isub hx hb dX5_layMinors_103 ?_
  refine lv_eqi (v := 30) (by decide) ?_
  refine ld_l hx hb hK.1 hP 2 1 rfl rfl (ix_lit (by decide)) 30 (by decide) (v := z5_mw30 fr) rfl dX5_layMinors_104 ?_
  refine lv_lmul hx hb dX5_layMinors_105 ?_
  refine lv_lstore (lv' := [(7, .long ((fr 29) * (z5_mw30 fr))), (6, .int 5), (5, .int 0), (3, .long ((((0 + ((fr 25) * (z5_mw60 fr))) + (-((fr 26) * (z5_mw58 fr)))) + ((fr 27) * (z5_mw54 fr))) + (-((fr 28) * (z5_mw46 fr))))), (2, .int 4), (0, .ref o), (1, .int 62)]) hx hb dX5_layMinors_106 hl (by decide) rfl (fun ls hl => ?_)
  refine lv_lload_n hx hb dX5_layMinors_108 rfl (lv_at hl 3 rfl) ?_
  refine lv_iload hx hb dX5_layMinors_109 (lv_at hl 2 rfl) ?_
  refine lv_iconst (v := 2) hx hb dX5_layMinors_111 (by decide) ?_
  refine lv_irem hx hb dX5_layMinors_112 (by decide) ?_
  refine lv_eqi (v := 0) (by decide) ?_
  refine lv_if_ne (tgt := 121) hx hb dX5_layMinors_113 (by decide) (fun h => absurd (by decide) h) (fun _ => ?_)
  refine lv_lload hx hb dX5_layMinors_116 (lv_at hl 0 rfl) ?_
  refine lv_goto (tgt := 124) hx hb dX5_layMinors_118 (by decide) ?_
  refine lv_ladd hx hb dX5_layMinors_124 ?_
  refine lv_lstore_n (lv' := [(3, .long (((((0 + ((fr 25) * (z5_mw60 fr))) + (-((fr 26) * (z5_mw58 fr)))) + ((fr 27) * (z5_mw54 fr))) + (-((fr 28) * (z5_mw46 fr)))) + ((fr 29) * (z5_mw30 fr)))), (7, .long ((fr 29) * (z5_mw30 fr))), (6, .int 5), (5, .int 0), (2, .int 4), (0, .ref o), (1, .int 62)]) hx hb dX5_layMinors_125 rfl hl (by decide) rfl (fun ls hl => ?_)
  refine lv_iinc (v := (-1)) (lv' := [(5, .int (-1)), (3, .long (((((0 + ((fr 25) * (z5_mw60 fr))) + (-((fr 26) * (z5_mw58 fr)))) + ((fr 27) * (z5_mw54 fr))) + (-((fr 28) * (z5_mw46 fr)))) + ((fr 29) * (z5_mw30 fr)))), (7, .long ((fr 29) * (z5_mw30 fr))), (6, .int 5), (2, .int 4), (0, .ref o), (1, .int 62)]) hx hb dX5_layMinors_126 hl (k := 3) rfl (by decide) (by decide) rfl (fun ls hl => ?_)
  refine lv_iinc (v := 6) (lv' := [(6, .int 6), (5, .int (-1)), (3, .long (((((0 + ((fr 25) * (z5_mw60 fr))) + (-((fr 26) * (z5_mw58 fr)))) + ((fr 27) * (z5_mw54 fr))) + (-((fr 28) * (z5_mw46 fr)))) + ((fr 29) * (z5_mw30 fr)))), (7, .long ((fr 29) * (z5_mw30 fr))), (2, .int 4), (0, .ref o), (1, .int 62)]) hx hb dX5_layMinors_129 hl (k := 3) rfl (by decide) (by decide) rfl (fun ls hl => ?_)
  refine lv_goto (tgt := 60) hx hb dX5_layMinors_132 (by decide) ?_
  refine lv_iload hx hb dX5_layMinors_60 (lv_at hl 0 rfl) ?_
  refine lv_bipush (v := 6) hx hb dX5_layMinors_62 (by decide) ?_
  refine lv_icmp_ge (tgt := 135) hx hb dX5_layMinors_64 (by decide) (fun _ => ?_) (fun h => absurd (by decide) h)
  refine lv_aload_n hx hb dX5_layMinors_135 rfl (lv_at hl 5 rfl) ?_
  refine va_get (D := D) (ci := 5) (v := .ref mD) (C := RX5) (T := TX5) (N := 17) hx hb hts k_2 hown hK.1 hP 0 rfl rfl 6 (by decide) k_1 (fun _ h9 => h9) rfl dX5_layMinors_136 ?_
  refine lv_iload_n hx hb dX5_layMinors_139 rfl (lv_at hl 6 rfl) ?_
  refine lv_lload_n hx hb dX5_layMinors_140 rfl (lv_at hl 2 rfl) ?_
  refine st_l hx hb hK.1 hP hD hS 2 1 rfl rfl (ix_lit (by decide)) 62 (by decide) dX5_layMinors_141 (fun H locs hP hD hS => ?_)
  have hP : va_P D vwCl [kM o mP mL mC mN mF mR mD mV mX mA mK cm mT pm mU mH mI, kJ mR cJ 30 fr, kJ mD cJ 64 (vp_updL (z5_mm62 fr fd) 62 (((((0 + ((fr 25) * (z5_mw60 fr))) + (-((fr 26) * (z5_mw58 fr)))) + ((fr 27) * (z5_mw54 fr))) + (-((fr 28) * (z5_mw46 fr)))) + ((fr 29) * (z5_mw30 fr))))] H := hP
  have hD : va_D A [kM o mP mL mC mN mF mR mD mV mX mA mK cm mT pm mU mH mI, kJ mR cJ 30 fr, kJ mD cJ 64 (vp_updL (z5_mm62 fr fd) 62 (((((0 + ((fr 25) * (z5_mw60 fr))) + (-((fr 26) * (z5_mw58 fr)))) + ((fr 27) * (z5_mw54 fr))) + (-((fr 28) * (z5_mw46 fr)))) + ((fr 29) * (z5_mw30 fr))))] := hD
  have hP : va_P D vwCl [kM o mP mL mC mN mF mR mD mV mX mA mK cm mT pm mU mH mI, kJ mR cJ 30 fr, kJ mD cJ 64 (z5_mm63 fr fd)] H := hP
  have hD : va_D A [kM o mP mL mC mN mF mR mD mV mX mA mK cm mT pm mU mH mI, kJ mR cJ 30 fr, kJ mD cJ 64 (z5_mm63 fr fd)] := hD
  refine lv_iinc (v := 63) (lv' := [(1, .int 63), (6, .int 6), (5, .int (-1)), (3, .long (((((0 + ((fr 25) * (z5_mw60 fr))) + (-((fr 26) * (z5_mw58 fr)))) + ((fr 27) * (z5_mw54 fr))) + (-((fr 28) * (z5_mw46 fr)))) + ((fr 29) * (z5_mw30 fr)))), (7, .long ((fr 29) * (z5_mw30 fr))), (2, .int 4), (0, .ref o)]) hx hb dX5_layMinors_142 hl (k := 6) rfl (by decide) (by decide) rfl (fun ls hl => ?_)
  refine lv_goto (tgt := 9) hx hb dX5_layMinors_145 (by decide) ?_
  exact sg_X5_layMinors_63 hx hb hr hml hown hts hlk hK hA hP hD hS ls (lv_sub hl [6, 0] rfl)
set_option maxHeartbeats 4000000 in
set_option maxRecDepth 100000 in
theorem sg_X5_layMinors_61 {l : Launch} {D : va_G} {cI cJ : ClassId} {pG : Program} {eG : Env} {sG : State} {mG : MethodId} {below : List Frame} {meth : Method} {cG : Code} {A : Nat → Prop} {H : Heap} {locs : List Loc} {o : Nat} {mP : Nat} {mL : Nat} {mC : Nat} {mN : Nat} {mF : Nat} {mR : Nat} {mD : Nat} {mV : Nat} {mX : Nat} {mA : Nat} {mK : Nat} {mT : Nat} {mU : Nat} {mH : Nat} {mI : Nat} {cm : Int32} {pm : Int32} {fr : Nat → Int64} {fd : Nat → Int64} (hx : pG.tables.exec = Jvm.exec) (hb : cG.code = cX5_layMinors) (hr : meth.sig.returnType = none) (hml : cG.maxLocals = 9) (hown : sG.vm.findClass RX5 = some mG.cls) (hts : ∀ x ∈ wsX5_layMinors, x.before ([.ref o] : List Value).toArray sG = true) (hlk : meth.locks = false) (hK : gd_K D cI cJ sG) (hA : ∀ q : Nat, sG.heap.size ≤ q → A q) (hP : va_P D vwCl [kM o mP mL mC mN mF mR mD mV mX mA mK cm mT pm mU mH mI, kJ mR cJ 30 fr, kJ mD cJ 64 (z5_mm61 fr fd)] H) (hD : va_D A [kM o mP mL mC mN mF mR mD mV mX mA mK cm mT pm mU mH mI, kJ mR cJ 30 fr, kJ mD cJ 64 (z5_mm61 fr fd)]) (hS : va_S A sG.heap H locs) (ls : Array Slot) (hl : lv_has ls 9 [(0, .ref o), (1, .int 61)]) : W pG l eG (headSpec wsX5_layMinors ({ frames := 0, cells := 0, slots := 0, locals := 0 })).room sG mG ([.ref o] : List Value).toArray below meth cG H locs 0 0 (MQ below ((qe_v (fun _ : Unit => True) (fun uu => [kM o mP mL mC mN mF mR mD mV mX mA mK cm mT pm mU mH mI, kJ mR cJ 30 fr, kJ mD cJ 64 (z5_layMinors_f2 fr fd)])) D A) ([.ref o] : List Value).toArray sG 0 0 A) (F0 mG 9 ls []) := by
  have k_1 := hts (.fieldLink RX5 29 "ConicRowsModel" "minors" "[J") (by decide +kernel)
  have k_2 : ∀ w ∈ wsX50, w ∈ wsX5_layMinors := by decide +kernel
  have k_3 := hts (.constant RX5 122 (-1000001)) (by decide +kernel)
  have k_4 := hts (.fieldLink RX5 26 "ConicRowsModel" "rows" "[J") (by decide +kernel)
  refine lv_iload_n hx hb dX5_layMinors_9 rfl (lv_at hl 1 rfl) ?_
  refine lv_bipush (v := 64) hx hb dX5_layMinors_10 (by decide) ?_
  refine lv_icmp_ge (tgt := 148) hx hb dX5_layMinors_12 (by decide) (fun h => absurd h (by decide)) (fun _ => ?_)
  refine lv_ldc hx hb hown k_3 dX5_layMinors_15 ?_
  refine lv_istore_n (lv' := [(2, .int (-1000001)), (0, .ref o), (1, .int 61)]) hx hb dX5_layMinors_17 rfl hl (by decide) rfl (fun ls hl => ?_)
  refine lv_iconst (v := 0) hx hb dX5_layMinors_18 (by decide) ?_
  refine lv_istore_n (lv' := [(3, .int 0), (2, .int (-1000001)), (0, .ref o), (1, .int 61)]) hx hb dX5_layMinors_19 rfl hl (by decide) rfl (fun ls hl => ?_)
  refine lv_iload_n hx hb dX5_layMinors_20 rfl (lv_at hl 0 rfl) ?_
  refine lv_bipush (v := 6) hx hb dX5_layMinors_21 (by decide) ?_
  refine lv_icmp_ge (tgt := 52) hx hb dX5_layMinors_23 (by decide) (fun h => absurd h (by decide)) (fun _ => ?_)
  refine lv_iload_n hx hb dX5_layMinors_26 rfl (lv_at hl 1 rfl) ?_
  refine lv_ldc hx hb hown k_3 dX5_layMinors_27 ?_
  refine lv_icmp_ne (tgt := 36) hx hb dX5_layMinors_29 (by decide) (fun h => absurd (by decide) h) (fun _ => ?_)
  refine lv_iconst (v := (-1)) hx hb dX5_layMinors_32 (by decide) ?_
  refine lv_goto (tgt := 37) hx hb dX5_layMinors_33 (by decide) ?_
  refine lv_istore_n (lv' := [(2, .int (-1)), (3, .int 0), (0, .ref o), (1, .int 61)]) hx hb dX5_layMinors_37 rfl hl (by decide) rfl (fun ls hl => ?_)
  refine lv_iload_n hx hb dX5_layMinors_38 rfl (lv_at hl 0 rfl) ?_
  refine lv_iload_n hx hb dX5_layMinors_39 rfl (lv_at hl 3 rfl) ?_
  refine lv_iload_n hx hb dX5_layMinors_40 rfl (lv_at hl 1 rfl) ?_
  refine lv_ishr hx hb dX5_layMinors_41 ?_
  refine lv_eqi (v := 61) (by decide) ?_
  refine lv_iconst (v := 1) hx hb dX5_layMinors_42 (by decide) ?_
  refine lv_iand hx hb dX5_layMinors_43 ?_
  refine lv_eqi (v := 1) (by decide) ?_
  refine lv_iadd hx hb dX5_layMinors_44 ?_
  refine lv_eqi (v := 0) (by decide) ?_
  refine lv_istore_n (lv' := [(2, .int 0), (3, .int 0), (0, .ref o), (1, .int 61)]) hx hb dX5_layMinors_45 rfl hl (by decide) rfl (fun ls hl => ?_)
  refine lv_iinc (v := 1) (lv' := [(3, .int 1), (2, .int 0), (0, .ref o), (1, .int 61)]) hx hb dX5_layMinors_46 hl (k := 1) rfl (by decide) (by decide) rfl (fun ls hl => ?_)
  refine lv_goto (tgt := 20) hx hb dX5_layMinors_49 (by decide) ?_
  refine lv_iload_n hx hb dX5_layMinors_20 rfl (lv_at hl 0 rfl) ?_
  refine lv_bipush (v := 6) hx hb dX5_layMinors_21 (by decide) ?_
  refine lv_icmp_ge (tgt := 52) hx hb dX5_layMinors_23 (by decide) (fun h => absurd h (by decide)) (fun _ => ?_)
  refine lv_iload_n hx hb dX5_layMinors_26 rfl (lv_at hl 1 rfl) ?_
  refine lv_ldc hx hb hown k_3 dX5_layMinors_27 ?_
  refine lv_icmp_ne (tgt := 36) hx hb dX5_layMinors_29 (by decide) (fun _ => ?_) (fun h => absurd h (by decide))
  refine lv_iload_n hx hb dX5_layMinors_36 rfl (lv_at hl 1 rfl) ?_
  refine lv_istore_n (lv' := [(2, .int 0), (3, .int 1), (0, .ref o), (1, .int 61)]) hx hb dX5_layMinors_37 rfl hl (by decide) rfl (fun ls hl => ?_)
  refine lv_iload_n hx hb dX5_layMinors_38 rfl (lv_at hl 0 rfl) ?_
  refine lv_iload_n hx hb dX5_layMinors_39 rfl (lv_at hl 3 rfl) ?_
  refine lv_iload_n hx hb dX5_layMinors_40 rfl (lv_at hl 1 rfl) ?_
  refine lv_ishr hx hb dX5_layMinors_41 ?_
  refine lv_eqi (v := 30) (by decide) ?_
  refine lv_iconst (v := 1) hx hb dX5_layMinors_42 (by decide) ?_
  refine lv_iand hx hb dX5_layMinors_43 ?_
  refine lv_eqi (v := 0) (by decide) ?_
  refine lv_iadd hx hb dX5_layMinors_44 ?_
  refine lv_eqi (v := 0) (by decide) ?_
  refine lv_istore_n (lv' := [(2, .int 0), (3, .int 1), (0, .ref o), (1, .int 61)]) hx hb dX5_layMinors_45 rfl hl (by decide) rfl (fun ls hl => ?_)
  refine lv_iinc (v := 2) (lv' := [(3, .int 2), (2, .int 0), (0, .ref o), (1, .int 61)]) hx hb dX5_layMinors_46 hl (k := 1) rfl (by decide) (by decide) rfl (fun ls hl => ?_)
  refine lv_goto (tgt := 20) hx hb dX5_layMinors_49 (by decide) ?_
  refine lv_iload_n hx hb dX5_layMinors_20 rfl (lv_at hl 0 rfl) ?_
  refine lv_bipush (v := 6) hx hb dX5_layMinors_21 (by decide) ?_
  refine lv_icmp_ge (tgt := 52) hx hb dX5_layMinors_23 (by decide) (fun h => absurd h (by decide)) (fun _ => ?_)
  refine lv_iload_n hx hb dX5_layMinors_26 rfl (lv_at hl 1 rfl) ?_
  refine lv_ldc hx hb hown k_3 dX5_layMinors_27 ?_
  refine lv_icmp_ne (tgt := 36) hx hb dX5_layMinors_29 (by decide) (fun _ => ?_) (fun h => absurd h (by decide))
  refine lv_iload_n hx hb dX5_layMinors_36 rfl (lv_at hl 1 rfl) ?_
  refine lv_istore_n (lv' := [(2, .int 0), (3, .int 2), (0, .ref o), (1, .int 61)]) hx hb dX5_layMinors_37 rfl hl (by decide) rfl (fun ls hl => ?_)
  refine lv_iload_n hx hb dX5_layMinors_38 rfl (lv_at hl 0 rfl) ?_
  refine lv_iload_n hx hb dX5_layMinors_39 rfl (lv_at hl 3 rfl) ?_
  refine lv_iload_n hx hb dX5_layMinors_40 rfl (lv_at hl 1 rfl) ?_
  refine lv_ishr hx hb dX5_layMinors_41 ?_
  refine lv_eqi (v := 15) (by decide) ?_
  refine lv_iconst (v := 1) hx hb dX5_layMinors_42 (by decide) ?_
  refine lv_iand hx hb dX5_layMinors_43 ?_
  refine lv_eqi (v := 1) (by decide) ?_
  refine lv_iadd hx hb dX5_layMinors_44 ?_
  refine lv_eqi (v := 1) (by decide) ?_
  refine lv_istore_n (lv' := [(2, .int 1), (3, .int 2), (0, .ref o), (1, .int 61)]) hx hb dX5_layMinors_45 rfl hl (by decide) rfl (fun ls hl => ?_)
  refine lv_iinc (v := 3) (lv' := [(3, .int 3), (2, .int 1), (0, .ref o), (1, .int 61)]) hx hb dX5_layMinors_46 hl (k := 1) rfl (by decide) (by decide) rfl (fun ls hl => ?_)
  refine lv_goto (tgt := 20) hx hb dX5_layMinors_49 (by decide) ?_
  refine lv_iload_n hx hb dX5_layMinors_20 rfl (lv_at hl 0 rfl) ?_
  refine lv_bipush (v := 6) hx hb dX5_layMinors_21 (by decide) ?_
  refine lv_icmp_ge (tgt := 52) hx hb dX5_layMinors_23 (by decide) (fun h => absurd h (by decide)) (fun _ => ?_)
  refine lv_iload_n hx hb dX5_layMinors_26 rfl (lv_at hl 1 rfl) ?_
  refine lv_ldc hx hb hown k_3 dX5_layMinors_27 ?_
  refine lv_icmp_ne (tgt := 36) hx hb dX5_layMinors_29 (by decide) (fun _ => ?_) (fun h => absurd h (by decide))
  refine lv_iload_n hx hb dX5_layMinors_36 rfl (lv_at hl 1 rfl) ?_
  refine lv_istore_n (lv' := [(2, .int 1), (3, .int 3), (0, .ref o), (1, .int 61)]) hx hb dX5_layMinors_37 rfl hl (by decide) rfl (fun ls hl => ?_)
  refine lv_iload_n hx hb dX5_layMinors_38 rfl (lv_at hl 0 rfl) ?_
  refine lv_iload_n hx hb dX5_layMinors_39 rfl (lv_at hl 3 rfl) ?_
  refine lv_iload_n hx hb dX5_layMinors_40 rfl (lv_at hl 1 rfl) ?_
  refine lv_ishr hx hb dX5_layMinors_41 ?_
  refine lv_eqi (v := 7) (by decide) ?_
  refine lv_iconst (v := 1) hx hb dX5_layMinors_42 (by decide) ?_
  refine lv_iand hx hb dX5_layMinors_43 ?_
  refine lv_eqi (v := 1) (by decide) ?_
  refine lv_iadd hx hb dX5_layMinors_44 ?_
  refine lv_eqi (v := 2) (by decide) ?_
  refine lv_istore_n (lv' := [(2, .int 2), (3, .int 3), (0, .ref o), (1, .int 61)]) hx hb dX5_layMinors_45 rfl hl (by decide) rfl (fun ls hl => ?_)
  refine lv_iinc (v := 4) (lv' := [(3, .int 4), (2, .int 2), (0, .ref o), (1, .int 61)]) hx hb dX5_layMinors_46 hl (k := 1) rfl (by decide) (by decide) rfl (fun ls hl => ?_)
  refine lv_goto (tgt := 20) hx hb dX5_layMinors_49 (by decide) ?_
  refine lv_iload_n hx hb dX5_layMinors_20 rfl (lv_at hl 0 rfl) ?_
  refine lv_bipush (v := 6) hx hb dX5_layMinors_21 (by decide) ?_
  refine lv_icmp_ge (tgt := 52) hx hb dX5_layMinors_23 (by decide) (fun h => absurd h (by decide)) (fun _ => ?_)
  refine lv_iload_n hx hb dX5_layMinors_26 rfl (lv_at hl 1 rfl) ?_
  refine lv_ldc hx hb hown k_3 dX5_layMinors_27 ?_
  refine lv_icmp_ne (tgt := 36) hx hb dX5_layMinors_29 (by decide) (fun _ => ?_) (fun h => absurd h (by decide))
  refine lv_iload_n hx hb dX5_layMinors_36 rfl (lv_at hl 1 rfl) ?_
  refine lv_istore_n (lv' := [(2, .int 2), (3, .int 4), (0, .ref o), (1, .int 61)]) hx hb dX5_layMinors_37 rfl hl (by decide) rfl (fun ls hl => ?_)
  refine lv_iload_n hx hb dX5_layMinors_38 rfl (lv_at hl 0 rfl) ?_
  refine lv_iload_n hx hb dX5_layMinors_39 rfl (lv_at hl 3 rfl) ?_
  refine lv_iload_n hx hb dX5_layMinors_40 rfl (lv_at hl 1 rfl) ?_
  refine lv_ishr hx hb dX5_layMinors_41 ?_
  refine lv_eqi (v := 3) (by decide) ?_
  refine lv_iconst (v := 1) hx hb dX5_layMinors_42 (by decide) ?_
  refine lv_iand hx hb dX5_layMinors_43 ?_
  refine lv_eqi (v := 1) (by decide) ?_
  refine lv_iadd hx hb dX5_layMinors_44 ?_
  refine lv_eqi (v := 3) (by decide) ?_
  refine lv_istore_n (lv' := [(2, .int 3), (3, .int 4), (0, .ref o), (1, .int 61)]) hx hb dX5_layMinors_45 rfl hl (by decide) rfl (fun ls hl => ?_)
  refine lv_iinc (v := 5) (lv' := [(3, .int 5), (2, .int 3), (0, .ref o), (1, .int 61)]) hx hb dX5_layMinors_46 hl (k := 1) rfl (by decide) (by decide) rfl (fun ls hl => ?_)
  refine lv_goto (tgt := 20) hx hb dX5_layMinors_49 (by decide) ?_
  refine lv_iload_n hx hb dX5_layMinors_20 rfl (lv_at hl 0 rfl) ?_
  refine lv_bipush (v := 6) hx hb dX5_layMinors_21 (by decide) ?_
  refine lv_icmp_ge (tgt := 52) hx hb dX5_layMinors_23 (by decide) (fun h => absurd h (by decide)) (fun _ => ?_)
  refine lv_iload_n hx hb dX5_layMinors_26 rfl (lv_at hl 1 rfl) ?_
  refine lv_ldc hx hb hown k_3 dX5_layMinors_27 ?_
  refine lv_icmp_ne (tgt := 36) hx hb dX5_layMinors_29 (by decide) (fun _ => ?_) (fun h => absurd h (by decide))
  refine lv_iload_n hx hb dX5_layMinors_36 rfl (lv_at hl 1 rfl) ?_
  refine lv_istore_n (lv' := [(2, .int 3), (3, .int 5), (0, .ref o), (1, .int 61)]) hx hb dX5_layMinors_37 rfl hl (by decide) rfl (fun ls hl => ?_)
  refine lv_iload_n hx hb dX5_layMinors_38 rfl (lv_at hl 0 rfl) ?_
  refine lv_iload_n hx hb dX5_layMinors_39 rfl (lv_at hl 3 rfl) ?_
  refine lv_iload_n hx hb dX5_layMinors_40 rfl (lv_at hl 1 rfl) ?_
  refine lv_ishr hx hb dX5_layMinors_41 ?_
  refine lv_eqi (v := 1) (by decide) ?_
  refine lv_iconst (v := 1) hx hb dX5_layMinors_42 (by decide) ?_
  refine lv_iand hx hb dX5_layMinors_43 ?_
  refine lv_eqi (v := 1) (by decide) ?_
  refine lv_iadd hx hb dX5_layMinors_44 ?_
  refine lv_eqi (v := 4) (by decide) ?_
  refine lv_istore_n (lv' := [(2, .int 4), (3, .int 5), (0, .ref o), (1, .int 61)]) hx hb dX5_layMinors_45 rfl hl (by decide) rfl (fun ls hl => ?_)
  refine lv_iinc (v := 6) (lv' := [(3, .int 6), (2, .int 4), (0, .ref o), (1, .int 61)]) hx hb dX5_layMinors_46 hl (k := 1) rfl (by decide) (by decide) rfl (fun ls hl => ?_)
  refine lv_goto (tgt := 20) hx hb dX5_layMinors_49 (by decide) ?_
  refine lv_iload_n hx hb dX5_layMinors_20 rfl (lv_at hl 0 rfl) ?_
  refine lv_bipush (v := 6) hx hb dX5_layMinors_21 (by decide) ?_
  refine lv_icmp_ge (tgt := 52) hx hb dX5_layMinors_23 (by decide) (fun _ => ?_) (fun h => absurd (by decide) h)
  refine lv_lconst (v := 0) hx hb dX5_layMinors_52 (by decide) ?_
  refine lv_lstore_n (lv' := [(3, .long 0), (2, .int 4), (0, .ref o), (1, .int 61)]) hx hb dX5_layMinors_53 rfl hl (by decide) rfl (fun ls hl => ?_)
  refine lv_iload_n hx hb dX5_layMinors_54 rfl (lv_at hl 1 rfl) ?_
  refine lv_istore (lv' := [(5, .int 4), (3, .long 0), (2, .int 4), (0, .ref o), (1, .int 61)]) hx hb dX5_layMinors_55 hl (by decide) rfl (fun ls hl => ?_)
  refine lv_iconst (v := 0) hx hb dX5_layMinors_57 (by decide) ?_
  refine lv_istore (lv' := [(6, .int 0), (5, .int 4), (3, .long 0), (2, .int 4), (0, .ref o), (1, .int 61)]) hx hb dX5_layMinors_58 hl (by decide) rfl (fun ls hl => ?_)
  refine lv_iload hx hb dX5_layMinors_60 (lv_at hl 0 rfl) ?_
  refine lv_bipush (v := 6) hx hb dX5_layMinors_62 (by decide) ?_
  refine lv_icmp_ge (tgt := 135) hx hb dX5_layMinors_64 (by decide) (fun h => absurd h (by decide)) (fun _ => ?_)
  refine lv_iload_n hx hb dX5_layMinors_67 rfl (lv_at hl 3 rfl) ?_
  refine lv_iconst (v := 5) hx hb dX5_layMinors_68 (by decide) ?_
  refine lv_icmp_ge (tgt := 135) hx hb dX5_layMinors_69 (by decide) (fun h => absurd h (by decide)) (fun _ => ?_)
  refine lv_iload_n hx hb dX5_layMinors_72 rfl (lv_at hl 5 rfl) ?_
  refine lv_iload hx hb dX5_layMinors_73 (lv_at hl 0 rfl) ?_
  refine lv_ishr hx hb dX5_layMinors_75 ?_
  refine lv_eqi (v := 61) (by decide) ?_
  refine lv_iconst (v := 1) hx hb dX5_layMinors_76 (by decide) ?_
  refine lv_iand hx hb dX5_layMinors_77 ?_
  refine lv_eqi (v := 1) (by decide) ?_
  refine lv_iconst (v := 1) hx hb dX5_layMinors_78 (by decide) ?_
  refine lv_icmp_ne (tgt := 129) hx hb dX5_layMinors_79 (by decide) (fun h => absurd (by decide) h) (fun _ => ?_)
  refine lv_aload_n hx hb dX5_layMinors_82 rfl (lv_at hl 4 rfl) ?_
  refine va_get (D := D) (ci := 5) (v := .ref mR) (C := RX5) (T := TX5) (N := 17) hx hb hts k_2 hown hK.1 hP 0 rfl rfl 5 (by decide) k_4 (fun _ h9 => h9) rfl dX5_layMinors_83 ?_
  refine lv_bipush (v := 6) hx hb dX5_layMinors_86 (by decide) ?_
  refine lv_iload_n hx hb dX5_layMinors_88 rfl (lv_at hl 3 rfl) ?_
  refine lv_imul hx hb dX5_layMinors_89 ?_
  refine lv_eqi (v := 24) (by decide) ?_
  refine lv_iload hx hb dX5_layMinors_90 (lv_at hl 0 rfl) ?_
  refine lv_iadd hx hb dX5_layMinors_92 ?_
  refine lv_eqi (v := 24) (by decide) ?_
  refine ld_l hx hb hK.1 hP 1 1 rfl rfl (ix_lit (by decide)) 24 (by decide) (v := fr 24) rfl dX5_layMinors_93 ?_
  refine lv_aload_n hx hb dX5_layMinors_94 rfl (lv_at hl 4 rfl) ?_
  refine va_get (D := D) (ci := 5) (v := .ref mD) (C := RX5) (T := TX5) (N := 17) hx hb hts k_2 hown hK.1 hP 0 rfl rfl 6 (by decide) k_1 (fun _ h9 => h9) rfl dX5_layMinors_95 ?_
  refine lv_iload_n hx hb dX5_layMinors_98 rfl (lv_at hl 5 rfl) ?_
  refine lv_iconst (v := 1) hx hb dX5_layMinors_99 (by decide) ?_
  refine lv_iload hx hb dX5_layMinors_100 (lv_at hl 0 rfl) ?_
  refine lv_ishl hx hb dX5_layMinors_102 ?_
  refine lv_eqi (v := 1) (by decide) ?_
  refine lv_isub hx hb dX5_layMinors_103 ?_
  refine lv_eqi (v := 60) (by decide) ?_
  refine ld_l hx hb hK.1 hP 2 1 rfl rfl (ix_lit (by decide)) 60 (by decide) (v := z5_mw60 fr) rfl dX5_layMinors_104 ?_
  refine lv_lmul hx hb dX5_layMinors_105 ?_
  refine lv_lstore (lv' := [(7, .long ((fr 24) * (z5_mw60 fr))), (6, .int 0), (5, .int 4), (3, .long 0), (2, .int 4), (0, .ref o), (1, .int 61)]) hx hb dX5_layMinors_106 hl (by decide) rfl (fun ls hl => ?_)
  refine lv_lload_n hx hb dX5_layMinors_108 rfl (lv_at hl 3 rfl) ?_
  refine lv_iload hx hb dX5_layMinors_109 (lv_at hl 2 rfl) ?_
  refine lv_iconst (v := 2) hx hb dX5_layMinors_111 (by decide) ?_
  refine lv_irem hx hb dX5_layMinors_112 (by decide) ?_
  refine lv_eqi (v := 0) (by decide) ?_
  refine lv_if_ne (tgt := 121) hx hb dX5_layMinors_113 (by decide) (fun h => absurd (by decide) h) (fun _ => ?_)
  refine lv_lload hx hb dX5_layMinors_116 (lv_at hl 0 rfl) ?_
  refine lv_goto (tgt := 124) hx hb dX5_layMinors_118 (by decide) ?_
  refine lv_ladd hx hb dX5_layMinors_124 ?_
  refine lv_lstore_n (lv' := [(3, .long (0 + ((fr 24) * (z5_mw60 fr)))), (7, .long ((fr 24) * (z5_mw60 fr))), (6, .int 0), (5, .int 4), (2, .int 4), (0, .ref o), (1, .int 61)]) hx hb dX5_layMinors_125 rfl hl (by decide) rfl (fun ls hl => ?_)
  refine lv_iinc (v := 3) (lv' := [(5, .int 3), (3, .long (0 + ((fr 24) * (z5_mw60 fr)))), (7, .long ((fr 24) * (z5_mw60 fr))), (6, .int 0), (2, .int 4), (0, .ref o), (1, .int 61)]) hx hb dX5_layMinors_126 hl (k := 3) rfl (by decide) (by decide) rfl (fun ls hl => ?_)
  refine lv_iinc (v := 1) (lv' := [(6, .int 1), (5, .int 3), (3, .long (0 + ((fr 24) * (z5_mw60 fr)))), (7, .long ((fr 24) * (z5_mw60 fr))), (2, .int 4), (0, .ref o), (1, .int 61)]) hx hb dX5_layMinors_129 hl (k := 3) rfl (by decide) (by decide) rfl (fun ls hl => ?_)
  refine lv_goto (tgt := 60) hx hb dX5_layMinors_132 (by decide) ?_
  refine lv_iload hx hb dX5_layMinors_60 (lv_at hl 0 rfl) ?_
  refine lv_bipush (v := 6) hx hb dX5_layMinors_62 (by decide) ?_
  refine lv_icmp_ge (tgt := 135) hx hb dX5_layMinors_64 (by decide) (fun h => absurd h (by decide)) (fun _ => ?_)
  refine lv_iload_n hx hb dX5_layMinors_67 rfl (lv_at hl 4 rfl) ?_
  refine lv_iconst (v := 5) hx hb dX5_layMinors_68 (by decide) ?_
  refine lv_icmp_ge (tgt := 135) hx hb dX5_layMinors_69 (by decide) (fun h => absurd h (by decide)) (fun _ => ?_)
  refine lv_iload_n hx hb dX5_layMinors_72 rfl (lv_at hl 6 rfl) ?_
  refine lv_iload hx hb dX5_layMinors_73 (lv_at hl 0 rfl) ?_
  refine lv_ishr hx hb dX5_layMinors_75 ?_
  refine lv_eqi (v := 30) (by decide) ?_
  refine lv_iconst (v := 1) hx hb dX5_layMinors_76 (by decide) ?_
  refine lv_iand hx hb dX5_layMinors_77 ?_
  refine lv_eqi (v := 0) (by decide) ?_
  refine lv_iconst (v := 1) hx hb dX5_layMinors_78 (by decide) ?_
  refine lv_icmp_ne (tgt := 129) hx hb dX5_layMinors_79 (by decide) (fun _ => ?_) (fun h => absurd h (by decide))
  refine lv_iinc (v := 2) (lv' := [(6, .int 2), (5, .int 3), (3, .long (0 + ((fr 24) * (z5_mw60 fr)))), (7, .long ((fr 24) * (z5_mw60 fr))), (2, .int 4), (0, .ref o), (1, .int 61)]) hx hb dX5_layMinors_129 hl (k := 0) rfl (by decide) (by decide) rfl (fun ls hl => ?_)
  refine lv_goto (tgt := 60) hx hb dX5_layMinors_132 (by decide) ?_
  refine lv_iload hx hb dX5_layMinors_60 (lv_at hl 0 rfl) ?_
  refine lv_bipush (v := 6) hx hb dX5_layMinors_62 (by decide) ?_
  refine lv_icmp_ge (tgt := 135) hx hb dX5_layMinors_64 (by decide) (fun h => absurd h (by decide)) (fun _ => ?_)
  refine lv_iload_n hx hb dX5_layMinors_67 rfl (lv_at hl 4 rfl) ?_
  refine lv_iconst (v := 5) hx hb dX5_layMinors_68 (by decide) ?_
  refine lv_icmp_ge (tgt := 135) hx hb dX5_layMinors_69 (by decide) (fun h => absurd h (by decide)) (fun _ => ?_)
  refine lv_iload_n hx hb dX5_layMinors_72 rfl (lv_at hl 6 rfl) ?_
  refine lv_iload hx hb dX5_layMinors_73 (lv_at hl 0 rfl) ?_
  refine lv_ishr hx hb dX5_layMinors_75 ?_
  refine lv_eqi (v := 15) (by decide) ?_
  refine lv_iconst (v := 1) hx hb dX5_layMinors_76 (by decide) ?_
  refine lv_iand hx hb dX5_layMinors_77 ?_
  refine lv_eqi (v := 1) (by decide) ?_
  refine lv_iconst (v := 1) hx hb dX5_layMinors_78 (by decide) ?_
  refine lv_icmp_ne (tgt := 129) hx hb dX5_layMinors_79 (by decide) (fun h => absurd (by decide) h) (fun _ => ?_)
  refine lv_aload_n hx hb dX5_layMinors_82 rfl (lv_at hl 5 rfl) ?_
  refine va_get (D := D) (ci := 5) (v := .ref mR) (C := RX5) (T := TX5) (N := 17) hx hb hts k_2 hown hK.1 hP 0 rfl rfl 5 (by decide) k_4 (fun _ h9 => h9) rfl dX5_layMinors_83 ?_
  refine lv_bipush (v := 6) hx hb dX5_layMinors_86 (by decide) ?_
  refine lv_iload_n hx hb dX5_layMinors_88 rfl (lv_at hl 4 rfl) ?_
  refine lv_imul hx hb dX5_layMinors_89 ?_
  refine lv_eqi (v := 24) (by decide) ?_
  refine lv_iload hx hb dX5_layMinors_90 (lv_at hl 0 rfl) ?_
  refine lv_iadd hx hb dX5_layMinors_92 ?_
  refine lv_eqi (v := 26) (by decide) ?_
  refine ld_l hx hb hK.1 hP 1 1 rfl rfl (ix_lit (by decide)) 26 (by decide) (v := fr 26) rfl dX5_layMinors_93 ?_
  refine lv_aload_n hx hb dX5_layMinors_94 rfl (lv_at hl 5 rfl) ?_
  refine va_get (D := D) (ci := 5) (v := .ref mD) (C := RX5) (T := TX5) (N := 17) hx hb hts k_2 hown hK.1 hP 0 rfl rfl 6 (by decide) k_1 (fun _ h9 => h9) rfl dX5_layMinors_95 ?_
  refine lv_iload_n hx hb dX5_layMinors_98 rfl (lv_at hl 6 rfl) ?_
  refine lv_iconst (v := 1) hx hb dX5_layMinors_99 (by decide) ?_
  refine lv_iload hx hb dX5_layMinors_100 (lv_at hl 0 rfl) ?_
  refine lv_ishl hx hb dX5_layMinors_102 ?_
  refine lv_eqi (v := 4) (by decide) ?_
  refine lv_isub hx hb dX5_layMinors_103 ?_
  refine lv_eqi (v := 57) (by decide) ?_
  refine ld_l hx hb hK.1 hP 2 1 rfl rfl (ix_lit (by decide)) 57 (by decide) (v := z5_mw57 fr) rfl dX5_layMinors_104 ?_
  refine lv_lmul hx hb dX5_layMinors_105 ?_
  refine lv_lstore (lv' := [(7, .long ((fr 26) * (z5_mw57 fr))), (6, .int 2), (5, .int 3), (3, .long (0 + ((fr 24) * (z5_mw60 fr)))), (2, .int 4), (0, .ref o), (1, .int 61)]) hx hb dX5_layMinors_106 hl (by decide) rfl (fun ls hl => ?_)
  refine lv_lload_n hx hb dX5_layMinors_108 rfl (lv_at hl 3 rfl) ?_
  refine lv_iload hx hb dX5_layMinors_109 (lv_at hl 2 rfl) ?_
  refine lv_iconst (v := 2) hx hb dX5_layMinors_111 (by decide) ?_
  refine lv_irem hx hb dX5_layMinors_112 (by decide) ?_
  refine lv_eqi (v := 1) (by decide) ?_
  refine lv_if_ne (tgt := 121) hx hb dX5_layMinors_113 (by decide) (fun _ => ?_) (fun h => absurd h (by decide))
  refine lv_lload hx hb dX5_layMinors_121 (lv_at hl 0 rfl) ?_
  refine lv_lneg hx hb dX5_layMinors_123 ?_
  refine lv_ladd hx hb dX5_layMinors_124 ?_
  refine lv_lstore_n (lv' := [(3, .long ((0 + ((fr 24) * (z5_mw60 fr))) + (-((fr 26) * (z5_mw57 fr))))), (7, .long ((fr 26) * (z5_mw57 fr))), (6, .int 2), (5, .int 3), (2, .int 4), (0, .ref o), (1, .int 61)]) hx hb dX5_layMinors_125 rfl hl (by decide) rfl (fun ls hl => ?_)
  refine lv_iinc (v := 2) (lv' := [(5, .int 2), (3, .long ((0 + ((fr 24) * (z5_mw60 fr))) + (-((fr 26) * (z5_mw57 fr))))), (7, .long ((fr 26) * (z5_mw57 fr))), (6, .int 2), (2, .int 4), (0, .ref o), (1, .int 61)]) hx hb dX5_layMinors_126 hl (k := 3) rfl (by decide) (by decide) rfl (fun ls hl => ?_)
  refine lv_iinc (v := 3) (lv' := [(6, .int 3), (5, .int 2), (3, .long ((0 + ((fr 24) * (z5_mw60 fr))) + (-((fr 26) * (z5_mw57 fr))))), (7, .long ((fr 26) * (z5_mw57 fr))), (2, .int 4), (0, .ref o), (1, .int 61)]) hx hb dX5_layMinors_129 hl (k := 3) rfl (by decide) (by decide) rfl (fun ls hl => ?_)
  refine lv_goto (tgt := 60) hx hb dX5_layMinors_132 (by decide) ?_
  refine lv_iload hx hb dX5_layMinors_60 (lv_at hl 0 rfl) ?_
  refine lv_bipush (v := 6) hx hb dX5_layMinors_62 (by decide) ?_
  refine lv_icmp_ge (tgt := 135) hx hb dX5_layMinors_64 (by decide) (fun h => absurd h (by decide)) (fun _ => ?_)
  refine lv_iload_n hx hb dX5_layMinors_67 rfl (lv_at hl 4 rfl) ?_
  refine lv_iconst (v := 5) hx hb dX5_layMinors_68 (by decide) ?_
  refine lv_icmp_ge (tgt := 135) hx hb dX5_layMinors_69 (by decide) (fun h => absurd h (by decide)) (fun _ => ?_)
  refine lv_iload_n hx hb dX5_layMinors_72 rfl (lv_at hl 6 rfl) ?_
  refine lv_iload hx hb dX5_layMinors_73 (lv_at hl 0 rfl) ?_
  refine lv_ishr hx hb dX5_layMinors_75 ?_
  refine lv_eqi (v := 7) (by decide) ?_
  refine lv_iconst (v := 1) hx hb dX5_layMinors_76 (by decide) ?_
  refine lv_iand hx hb dX5_layMinors_77 ?_
  refine lv_eqi (v := 1) (by decide) ?_
  refine lv_iconst (v := 1) hx hb dX5_layMinors_78 (by decide) ?_
  refine lv_icmp_ne (tgt := 129) hx hb dX5_layMinors_79 (by decide) (fun h => absurd (by decide) h) (fun _ => ?_)
  refine lv_aload_n hx hb dX5_layMinors_82 rfl (lv_at hl 5 rfl) ?_
  refine va_get (D := D) (ci := 5) (v := .ref mR) (C := RX5) (T := TX5) (N := 17) hx hb hts k_2 hown hK.1 hP 0 rfl rfl 5 (by decide) k_4 (fun _ h9 => h9) rfl dX5_layMinors_83 ?_
  refine lv_bipush (v := 6) hx hb dX5_layMinors_86 (by decide) ?_
  refine lv_iload_n hx hb dX5_layMinors_88 rfl (lv_at hl 4 rfl) ?_
  refine lv_imul hx hb dX5_layMinors_89 ?_
  refine lv_eqi (v := 24) (by decide) ?_
  refine lv_iload hx hb dX5_layMinors_90 (lv_at hl 0 rfl) ?_
  refine lv_iadd hx hb dX5_layMinors_92 ?_
  refine lv_eqi (v := 27) (by decide) ?_
  refine ld_l hx hb hK.1 hP 1 1 rfl rfl (ix_lit (by decide)) 27 (by decide) (v := fr 27) rfl dX5_layMinors_93 ?_
  refine lv_aload_n hx hb dX5_layMinors_94 rfl (lv_at hl 5 rfl) ?_
  refine va_get (D := D) (ci := 5) (v := .ref mD) (C := RX5) (T := TX5) (N := 17) hx hb hts k_2 hown hK.1 hP 0 rfl rfl 6 (by decide) k_1 (fun _ h9 => h9) rfl dX5_layMinors_95 ?_
  refine lv_iload_n hx hb dX5_layMinors_98 rfl (lv_at hl 6 rfl) ?_
  refine lv_iconst (v := 1) hx hb dX5_layMinors_99 (by decide) ?_
  refine lv_iload hx hb dX5_layMinors_100 (lv_at hl 0 rfl) ?_
  refine lv_ishl hx hb dX5_layMinors_102 ?_
  refine lv_eqi (v := 8) (by decide) ?_
  refine lv_isub hx hb dX5_layMinors_103 ?_
  refine lv_eqi (v := 53) (by decide) ?_
  refine ld_l hx hb hK.1 hP 2 1 rfl rfl (ix_lit (by decide)) 53 (by decide) (v := z5_mw53 fr) rfl dX5_layMinors_104 ?_
  refine lv_lmul hx hb dX5_layMinors_105 ?_
  refine lv_lstore (lv' := [(7, .long ((fr 27) * (z5_mw53 fr))), (6, .int 3), (5, .int 2), (3, .long ((0 + ((fr 24) * (z5_mw60 fr))) + (-((fr 26) * (z5_mw57 fr))))), (2, .int 4), (0, .ref o), (1, .int 61)]) hx hb dX5_layMinors_106 hl (by decide) rfl (fun ls hl => ?_)
  refine lv_lload_n hx hb dX5_layMinors_108 rfl (lv_at hl 3 rfl) ?_
  refine lv_iload hx hb dX5_layMinors_109 (lv_at hl 2 rfl) ?_
  refine lv_iconst (v := 2) hx hb dX5_layMinors_111 (by decide) ?_
  refine lv_irem hx hb dX5_layMinors_112 (by decide) ?_
  refine lv_eqi (v := 0) (by decide) ?_
  refine lv_if_ne (tgt := 121) hx hb dX5_layMinors_113 (by decide) (fun h => absurd (by decide) h) (fun _ => ?_)
  refine lv_lload hx hb dX5_layMinors_116 (lv_at hl 0 rfl) ?_
  refine lv_goto (tgt := 124) hx hb dX5_layMinors_118 (by decide) ?_
  refine lv_ladd hx hb dX5_layMinors_124 ?_
  refine lv_lstore_n (lv' := [(3, .long (((0 + ((fr 24) * (z5_mw60 fr))) + (-((fr 26) * (z5_mw57 fr)))) + ((fr 27) * (z5_mw53 fr)))), (7, .long ((fr 27) * (z5_mw53 fr))), (6, .int 3), (5, .int 2), (2, .int 4), (0, .ref o), (1, .int 61)]) hx hb dX5_layMinors_125 rfl hl (by decide) rfl (fun ls hl => ?_)
  refine lv_iinc (v := 1) (lv' := [(5, .int 1), (3, .long (((0 + ((fr 24) * (z5_mw60 fr))) + (-((fr 26) * (z5_mw57 fr)))) + ((fr 27) * (z5_mw53 fr)))), (7, .long ((fr 27) * (z5_mw53 fr))), (6, .int 3), (2, .int 4), (0, .ref o), (1, .int 61)]) hx hb dX5_layMinors_126 hl (k := 3) rfl (by decide) (by decide) rfl (fun ls hl => ?_)
  refine lv_iinc (v := 4) (lv' := [(6, .int 4), (5, .int 1), (3, .long (((0 + ((fr 24) * (z5_mw60 fr))) + (-((fr 26) * (z5_mw57 fr)))) + ((fr 27) * (z5_mw53 fr)))), (7, .long ((fr 27) * (z5_mw53 fr))), (2, .int 4), (0, .ref o), (1, .int 61)]) hx hb dX5_layMinors_129 hl (k := 3) rfl (by decide) (by decide) rfl (fun ls hl => ?_)
  refine lv_goto (tgt := 60) hx hb dX5_layMinors_132 (by decide) ?_
  refine lv_iload hx hb dX5_layMinors_60 (lv_at hl 0 rfl) ?_
  refine lv_bipush (v := 6) hx hb dX5_layMinors_62 (by decide) ?_
  refine lv_icmp_ge (tgt := 135) hx hb dX5_layMinors_64 (by decide) (fun h => absurd h (by decide)) (fun _ => ?_)
  refine lv_iload_n hx hb dX5_layMinors_67 rfl (lv_at hl 4 rfl) ?_
  refine lv_iconst (v := 5) hx hb dX5_layMinors_68 (by decide) ?_
  refine lv_icmp_ge (tgt := 135) hx hb dX5_layMinors_69 (by decide) (fun h => absurd h (by decide)) (fun _ => ?_)
  refine lv_iload_n hx hb dX5_layMinors_72 rfl (lv_at hl 6 rfl) ?_
  refine lv_iload hx hb dX5_layMinors_73 (lv_at hl 0 rfl) ?_
  refine lv_ishr hx hb dX5_layMinors_75 ?_
  refine lv_eqi (v := 3) (by decide) ?_
  refine lv_iconst (v := 1) hx hb dX5_layMinors_76 (by decide) ?_
  refine lv_iand hx hb dX5_layMinors_77 ?_
  refine lv_eqi (v := 1) (by decide) ?_
  refine lv_iconst (v := 1) hx hb dX5_layMinors_78 (by decide) ?_
  refine lv_icmp_ne (tgt := 129) hx hb dX5_layMinors_79 (by decide) (fun h => absurd (by decide) h) (fun _ => ?_)
  refine lv_aload_n hx hb dX5_layMinors_82 rfl (lv_at hl 5 rfl) ?_
  refine va_get (D := D) (ci := 5) (v := .ref mR) (C := RX5) (T := TX5) (N := 17) hx hb hts k_2 hown hK.1 hP 0 rfl rfl 5 (by decide) k_4 (fun _ h9 => h9) rfl dX5_layMinors_83 ?_
  refine lv_bipush (v := 6) hx hb dX5_layMinors_86 (by decide) ?_
  refine lv_iload_n hx hb dX5_layMinors_88 rfl (lv_at hl 4 rfl) ?_
  refine lv_imul hx hb dX5_layMinors_89 ?_
  refine lv_eqi (v := 24) (by decide) ?_
  refine lv_iload hx hb dX5_layMinors_90 (lv_at hl 0 rfl) ?_
  refine lv_iadd hx hb dX5_layMinors_92 ?_
  refine lv_eqi (v := 28) (by decide) ?_
  refine ld_l hx hb hK.1 hP 1 1 rfl rfl (ix_lit (by decide)) 28 (by decide) (v := fr 28) rfl dX5_layMinors_93 ?_
  refine lv_aload_n hx hb dX5_layMinors_94 rfl (lv_at hl 5 rfl) ?_
  refine va_get (D := D) (ci := 5) (v := .ref mD) (C := RX5) (T := TX5) (N := 17) hx hb hts k_2 hown hK.1 hP 0 rfl rfl 6 (by decide) k_1 (fun _ h9 => h9) rfl dX5_layMinors_95 ?_
  refine lv_iload_n hx hb dX5_layMinors_98 rfl (lv_at hl 6 rfl) ?_
  refine lv_iconst (v := 1) hx hb dX5_layMinors_99 (by decide) ?_
  refine lv_iload hx hb dX5_layMinors_100 (lv_at hl 0 rfl) ?_
  refine lv_ishl hx hb dX5_layMinors_102 ?_
  refine lv_eqi (v := 16) (by decide) ?_
  refine lv_isub hx hb dX5_layMinors_103 ?_
  refine lv_eqi (v := 45) (by decide) ?_
  refine ld_l hx hb hK.1 hP 2 1 rfl rfl (ix_lit (by decide)) 45 (by decide) (v := z5_mw45 fr) rfl dX5_layMinors_104 ?_
  refine lv_lmul hx hb dX5_layMinors_105 ?_
  refine lv_lstore (lv' := [(7, .long ((fr 28) * (z5_mw45 fr))), (6, .int 4), (5, .int 1), (3, .long (((0 + ((fr 24) * (z5_mw60 fr))) + (-((fr 26) * (z5_mw57 fr)))) + ((fr 27) * (z5_mw53 fr)))), (2, .int 4), (0, .ref o), (1, .int 61)]) hx hb dX5_layMinors_106 hl (by decide) rfl (fun ls hl => ?_)
  refine lv_lload_n hx hb dX5_layMinors_108 rfl (lv_at hl 3 rfl) ?_
  refine lv_iload hx hb dX5_layMinors_109 (lv_at hl 2 rfl) ?_
  refine lv_iconst (v := 2) hx hb dX5_layMinors_111 (by decide) ?_
  refine lv_irem hx hb dX5_layMinors_112 (by decide) ?_
  refine lv_eqi (v := 1) (by decide) ?_
  refine lv_if_ne (tgt := 121) hx hb dX5_layMinors_113 (by decide) (fun _ => ?_) (fun h => absurd h (by decide))
  refine lv_lload hx hb dX5_layMinors_121 (lv_at hl 0 rfl) ?_
  refine lv_lneg hx hb dX5_layMinors_123 ?_
  refine lv_ladd hx hb dX5_layMinors_124 ?_
  refine lv_lstore_n (lv' := [(3, .long ((((0 + ((fr 24) * (z5_mw60 fr))) + (-((fr 26) * (z5_mw57 fr)))) + ((fr 27) * (z5_mw53 fr))) + (-((fr 28) * (z5_mw45 fr))))), (7, .long ((fr 28) * (z5_mw45 fr))), (6, .int 4), (5, .int 1), (2, .int 4), (0, .ref o), (1, .int 61)]) hx hb dX5_layMinors_125 rfl hl (by decide) rfl (fun ls hl => ?_)
  refine lv_iinc (v := 0) (lv' := [(5, .int 0), (3, .long ((((0 + ((fr 24) * (z5_mw60 fr))) + (-((fr 26) * (z5_mw57 fr)))) + ((fr 27) * (z5_mw53 fr))) + (-((fr 28) * (z5_mw45 fr))))), (7, .long ((fr 28) * (z5_mw45 fr))), (6, .int 4), (2, .int 4), (0, .ref o), (1, .int 61)]) hx hb dX5_layMinors_126 hl (k := 3) rfl (by decide) (by decide) rfl (fun ls hl => ?_)
  refine lv_iinc (v := 5) (lv' := [(6, .int 5), (5, .int 0), (3, .long ((((0 + ((fr 24) * (z5_mw60 fr))) + (-((fr 26) * (z5_mw57 fr)))) + ((fr 27) * (z5_mw53 fr))) + (-((fr 28) * (z5_mw45 fr))))), (7, .long ((fr 28) * (z5_mw45 fr))), (2, .int 4), (0, .ref o), (1, .int 61)]) hx hb dX5_layMinors_129 hl (k := 3) rfl (by decide) (by decide) rfl (fun ls hl => ?_)
  refine lv_goto (tgt := 60) hx hb dX5_layMinors_132 (by decide) ?_
  refine lv_iload hx hb dX5_layMinors_60 (lv_at hl 0 rfl) ?_
  refine lv_bipush (v := 6) hx hb dX5_layMinors_62 (by decide) ?_
  refine lv_icmp_ge (tgt := 135) hx hb dX5_layMinors_64 (by decide) (fun h => absurd h (by decide)) (fun _ => ?_)
  refine lv_iload_n hx hb dX5_layMinors_67 rfl (lv_at hl 4 rfl) ?_
  refine lv_iconst (v := 5) hx hb dX5_layMinors_68 (by decide) ?_
  refine lv_icmp_ge (tgt := 135) hx hb dX5_layMinors_69 (by decide) (fun h => absurd h (by decide)) (fun _ => ?_)
  refine lv_iload_n hx hb dX5_layMinors_72 rfl (lv_at hl 6 rfl) ?_
  refine lv_iload hx hb dX5_layMinors_73 (lv_at hl 0 rfl) ?_
  refine lv_ishr hx hb dX5_layMinors_75 ?_
  refine lv_eqi (v := 1) (by decide) ?_
  refine lv_iconst (v := 1) hx hb dX5_layMinors_76 (by decide) ?_
  refine lv_iand hx hb dX5_layMinors_77 ?_
  refine lv_eqi (v := 1) (by decide) ?_
  refine lv_iconst (v := 1) hx hb dX5_layMinors_78 (by decide) ?_
  refine lv_icmp_ne (tgt := 129) hx hb dX5_layMinors_79 (by decide) (fun h => absurd (by decide) h) (fun _ => ?_)
  refine lv_aload_n hx hb dX5_layMinors_82 rfl (lv_at hl 5 rfl) ?_
  refine va_get (D := D) (ci := 5) (v := .ref mR) (C := RX5) (T := TX5) (N := 17) hx hb hts k_2 hown hK.1 hP 0 rfl rfl 5 (by decide) k_4 (fun _ h9 => h9) rfl dX5_layMinors_83 ?_
  refine lv_bipush (v := 6) hx hb dX5_layMinors_86 (by decide) ?_
  refine lv_iload_n hx hb dX5_layMinors_88 rfl (lv_at hl 4 rfl) ?_
  refine lv_imul hx hb dX5_layMinors_89 ?_
  refine lv_eqi (v := 24) (by decide) ?_
  refine lv_iload hx hb dX5_layMinors_90 (lv_at hl 0 rfl) ?_
  refine lv_iadd hx hb dX5_layMinors_92 ?_
  refine lv_eqi (v := 29) (by decide) ?_
  refine ld_l hx hb hK.1 hP 1 1 rfl rfl (ix_lit (by decide)) 29 (by decide) (v := fr 29) rfl dX5_layMinors_93 ?_
  refine lv_aload_n hx hb dX5_layMinors_94 rfl (lv_at hl 5 rfl) ?_
  refine va_get (D := D) (ci := 5) (v := .ref mD) (C := RX5) (T := TX5) (N := 17) hx hb hts k_2 hown hK.1 hP 0 rfl rfl 6 (by decide) k_1 (fun _ h9 => h9) rfl dX5_layMinors_95 ?_
  refine lv_iload_n hx hb dX5_layMinors_98 rfl (lv_at hl 6 rfl) ?_
  refine lv_iconst (v := 1) hx hb dX5_layMinors_99 (by decide) ?_
  refine lv_iload hx hb dX5_layMinors_100 (lv_at hl 0 rfl) ?_
  refine lv_ishl hx hb dX5_layMinors_102 ?_
  refine lv_eqi (v := 32) (by decide) ?_
  refine lv_isub hx hb dX5_layMinors_103 ?_
  refine lv_eqi (v := 29) (by decide) ?_
  refine ld_l hx hb hK.1 hP 2 1 rfl rfl (ix_lit (by decide)) 29 (by decide) (v := z5_mw29 fr) rfl dX5_layMinors_104 ?_
  refine lv_lmul hx hb dX5_layMinors_105 ?_
  refine lv_lstore (lv' := [(7, .long ((fr 29) * (z5_mw29 fr))), (6, .int 5), (5, .int 0), (3, .long ((((0 + ((fr 24) * (z5_mw60 fr))) + (-((fr 26) * (z5_mw57 fr)))) + ((fr 27) * (z5_mw53 fr))) + (-((fr 28) * (z5_mw45 fr))))), (2, .int 4), (0, .ref o), (1, .int 61)]) hx hb dX5_layMinors_106 hl (by decide) rfl (fun ls hl => ?_)
  refine lv_lload_n hx hb dX5_layMinors_108 rfl (lv_at hl 3 rfl) ?_
  refine lv_iload hx hb dX5_layMinors_109 (lv_at hl 2 rfl) ?_
  refine lv_iconst (v := 2) hx hb dX5_layMinors_111 (by decide) ?_
  refine lv_irem hx hb dX5_layMinors_112 (by decide) ?_
  refine lv_eqi (v := 0) (by decide) ?_
  refine lv_if_ne (tgt := 121) hx hb dX5_layMinors_113 (by decide) (fun h => absurd (by decide) h) (fun _ => ?_)
  refine lv_lload hx hb dX5_layMinors_116 (lv_at hl 0 rfl) ?_
  refine lv_goto (tgt := 124) hx hb dX5_layMinors_118 (by decide) ?_
  refine lv_ladd hx hb dX5_layMinors_124 ?_
  refine lv_lstore_n (lv' := [(3, .long (((((0 + ((fr 24) * (z5_mw60 fr))) + (-((fr 26) * (z5_mw57 fr)))) + ((fr 27) * (z5_mw53 fr))) + (-((fr 28) * (z5_mw45 fr)))) + ((fr 29) * (z5_mw29 fr)))), (7, .long ((fr 29) * (z5_mw29 fr))), (6, .int 5), (5, .int 0), (2, .int 4), (0, .ref o), (1, .int 61)]) hx hb dX5_layMinors_125 rfl hl (by decide) rfl (fun ls hl => ?_)
  refine lv_iinc (v := (-1)) (lv' := [(5, .int (-1)), (3, .long (((((0 + ((fr 24) * (z5_mw60 fr))) + (-((fr 26) * (z5_mw57 fr)))) + ((fr 27) * (z5_mw53 fr))) + (-((fr 28) * (z5_mw45 fr)))) + ((fr 29) * (z5_mw29 fr)))), (7, .long ((fr 29) * (z5_mw29 fr))), (6, .int 5), (2, .int 4), (0, .ref o), (1, .int 61)]) hx hb dX5_layMinors_126 hl (k := 3) rfl (by decide) (by decide) rfl (fun ls hl => ?_)
  refine lv_iinc (v := 6) (lv' := [(6, .int 6), (5, .int (-1)), (3, .long (((((0 + ((fr 24) * (z5_mw60 fr))) + (-((fr 26) * (z5_mw57 fr)))) + ((fr 27) * (z5_mw53 fr))) + (-((fr 28) * (z5_mw45 fr)))) + ((fr 29) * (z5_mw29 fr)))), (7, .long ((fr 29) * (z5_mw29 fr))), (2, .int 4), (0, .ref o), (1, .int 61)]) hx hb dX5_layMinors_129 hl (k := 3) rfl (by decide) (by decide) rfl (fun ls hl => ?_)
  refine lv_goto (tgt := 60) hx hb dX5_layMinors_132 (by decide) ?_
  refine lv_iload hx hb dX5_layMinors_60 (lv_at hl 0 rfl) ?_
  refine lv_bipush (v := 6) hx hb dX5_layMinors_62 (by decide) ?_
  refine lv_icmp_ge (tgt := 135) hx hb dX5_layMinors_64 (by decide) (fun _ => ?_) (fun h => absurd (by decide) h)
  refine lv_aload_n hx hb dX5_layMinors_135 rfl (lv_at hl 5 rfl) ?_
  refine va_get (D := D) (ci := 5) (v := .ref mD) (C := RX5) (T := TX5) (N := 17) hx hb hts k_2 hown hK.1 hP 0 rfl rfl 6 (by decide) k_1 (fun _ h9 => h9) rfl dX5_layMinors_136 ?_
  refine lv_iload_n hx hb dX5_layMinors_139 rfl (lv_at hl 6 rfl) ?_
  refine lv_lload_n hx hb dX5_layMinors_140 rfl (lv_at hl 2 rfl) ?_
  refine st_l hx hb hK.1 hP hD hS 2 1 rfl rfl (ix_lit (by decide)) 61 (by decide) dX5_layMinors_141 (fun H locs hP hD hS => ?_)
  have hP : va_P D vwCl [kM o mP mL mC mN mF mR mD mV mX mA mK cm mT pm mU mH mI, kJ mR cJ 30 fr, kJ mD cJ 64 (vp_updL (z5_mm61 fr fd) 61 (((((0 + ((fr 24) * (z5_mw60 fr))) + (-((fr 26) * (z5_mw57 fr)))) + ((fr 27) * (z5_mw53 fr))) + (-((fr 28) * (z5_mw45 fr)))) + ((fr 29) * (z5_mw29 fr))))] H := hP
  have hD : va_D A [kM o mP mL mC mN mF mR mD mV mX mA mK cm mT pm mU mH mI, kJ mR cJ 30 fr, kJ mD cJ 64 (vp_updL (z5_mm61 fr fd) 61 (((((0 + ((fr 24) * (z5_mw60 fr))) + (-((fr 26) * (z5_mw57 fr)))) + ((fr 27) * (z5_mw53 fr))) + (-((fr 28) * (z5_mw45 fr)))) + ((fr 29) * (z5_mw29 fr))))] := hD
  have hP : va_P D vwCl [kM o mP mL mC mN mF mR mD mV mX mA mK cm mT pm mU mH mI, kJ mR cJ 30 fr, kJ mD cJ 64 (z5_mm62 fr fd)] H := hP
  have hD : va_D A [kM o mP mL mC mN mF mR mD mV mX mA mK cm mT pm mU mH mI, kJ mR cJ 30 fr, kJ mD cJ 64 (z5_mm62 fr fd)] := hD
  refine lv_iinc (v := 62) (lv' := [(1, .int 62), (6, .int 6), (5, .int (-1)), (3, .long (((((0 + ((fr 24) * (z5_mw60 fr))) + (-((fr 26) * (z5_mw57 fr)))) + ((fr 27) * (z5_mw53 fr))) + (-((fr 28) * (z5_mw45 fr)))) + ((fr 29) * (z5_mw29 fr)))), (7, .long ((fr 29) * (z5_mw29 fr))), (2, .int 4), (0, .ref o)]) hx hb dX5_layMinors_142 hl (k := 6) rfl (by decide) (by decide) rfl (fun ls hl => ?_)
  refine lv_goto (tgt := 9) hx hb dX5_layMinors_145 (by decide) ?_
  exact sg_X5_layMinors_62 hx hb hr hml hown hts hlk hK hA hP hD hS ls (lv_sub hl [6, 0] rfl)
set_option maxHeartbeats 4000000 in
set_option maxRecDepth 100000 in
theorem sg_X5_layMinors_60 {l : Launch} {D : va_G} {cI cJ : ClassId} {pG : Program} {eG : Env} {sG : State} {mG : MethodId} {below : List Frame} {meth : Method} {cG : Code} {A : Nat → Prop} {H : Heap} {locs : List Loc} {o : Nat} {mP : Nat} {mL : Nat} {mC : Nat} {mN : Nat} {mF : Nat} {mR : Nat} {mD : Nat} {mV : Nat} {mX : Nat} {mA : Nat} {mK : Nat} {mT : Nat} {mU : Nat} {mH : Nat} {mI : Nat} {cm : Int32} {pm : Int32} {fr : Nat → Int64} {fd : Nat → Int64} (hx : pG.tables.exec = Jvm.exec) (hb : cG.code = cX5_layMinors) (hr : meth.sig.returnType = none) (hml : cG.maxLocals = 9) (hown : sG.vm.findClass RX5 = some mG.cls) (hts : ∀ x ∈ wsX5_layMinors, x.before ([.ref o] : List Value).toArray sG = true) (hlk : meth.locks = false) (hK : gd_K D cI cJ sG) (hA : ∀ q : Nat, sG.heap.size ≤ q → A q) (hP : va_P D vwCl [kM o mP mL mC mN mF mR mD mV mX mA mK cm mT pm mU mH mI, kJ mR cJ 30 fr, kJ mD cJ 64 (z5_mm60 fr fd)] H) (hD : va_D A [kM o mP mL mC mN mF mR mD mV mX mA mK cm mT pm mU mH mI, kJ mR cJ 30 fr, kJ mD cJ 64 (z5_mm60 fr fd)]) (hS : va_S A sG.heap H locs) (ls : Array Slot) (hl : lv_has ls 9 [(0, .ref o), (1, .int 60)]) : W pG l eG (headSpec wsX5_layMinors ({ frames := 0, cells := 0, slots := 0, locals := 0 })).room sG mG ([.ref o] : List Value).toArray below meth cG H locs 0 0 (MQ below ((qe_v (fun _ : Unit => True) (fun uu => [kM o mP mL mC mN mF mR mD mV mX mA mK cm mT pm mU mH mI, kJ mR cJ 30 fr, kJ mD cJ 64 (z5_layMinors_f2 fr fd)])) D A) ([.ref o] : List Value).toArray sG 0 0 A) (F0 mG 9 ls []) := by
  have k_1 := hts (.fieldLink RX5 29 "ConicRowsModel" "minors" "[J") (by decide +kernel)
  have k_2 : ∀ w ∈ wsX50, w ∈ wsX5_layMinors := by decide +kernel
  have k_3 := hts (.constant RX5 122 (-1000001)) (by decide +kernel)
  have k_4 := hts (.fieldLink RX5 26 "ConicRowsModel" "rows" "[J") (by decide +kernel)
  refine lv_iload_n hx hb dX5_layMinors_9 rfl (lv_at hl 1 rfl) ?_
  refine lv_bipush (v := 64) hx hb dX5_layMinors_10 (by decide) ?_
  refine lv_icmp_ge (tgt := 148) hx hb dX5_layMinors_12 (by decide) (fun h => absurd h (by decide)) (fun _ => ?_)
  refine lv_ldc hx hb hown k_3 dX5_layMinors_15 ?_
  refine lv_istore_n (lv' := [(2, .int (-1000001)), (0, .ref o), (1, .int 60)]) hx hb dX5_layMinors_17 rfl hl (by decide) rfl (fun ls hl => ?_)
  refine lv_iconst (v := 0) hx hb dX5_layMinors_18 (by decide) ?_
  refine lv_istore_n (lv' := [(3, .int 0), (2, .int (-1000001)), (0, .ref o), (1, .int 60)]) hx hb dX5_layMinors_19 rfl hl (by decide) rfl (fun ls hl => ?_)
  refine lv_iload_n hx hb dX5_layMinors_20 rfl (lv_at hl 0 rfl) ?_
  refine lv_bipush (v := 6) hx hb dX5_layMinors_21 (by decide) ?_
  refine lv_icmp_ge (tgt := 52) hx hb dX5_layMinors_23 (by decide) (fun h => absurd h (by decide)) (fun _ => ?_)
  refine lv_iload_n hx hb dX5_layMinors_26 rfl (lv_at hl 1 rfl) ?_
  refine lv_ldc hx hb hown k_3 dX5_layMinors_27 ?_
  refine lv_icmp_ne (tgt := 36) hx hb dX5_layMinors_29 (by decide) (fun h => absurd (by decide) h) (fun _ => ?_)
  refine lv_iconst (v := (-1)) hx hb dX5_layMinors_32 (by decide) ?_
  refine lv_goto (tgt := 37) hx hb dX5_layMinors_33 (by decide) ?_
  refine lv_istore_n (lv' := [(2, .int (-1)), (3, .int 0), (0, .ref o), (1, .int 60)]) hx hb dX5_layMinors_37 rfl hl (by decide) rfl (fun ls hl => ?_)
  refine lv_iload_n hx hb dX5_layMinors_38 rfl (lv_at hl 0 rfl) ?_
  refine lv_iload_n hx hb dX5_layMinors_39 rfl (lv_at hl 3 rfl) ?_
  refine lv_iload_n hx hb dX5_layMinors_40 rfl (lv_at hl 1 rfl) ?_
  refine lv_ishr hx hb dX5_layMinors_41 ?_
  refine lv_eqi (v := 60) (by decide) ?_
  refine lv_iconst (v := 1) hx hb dX5_layMinors_42 (by decide) ?_
  refine lv_iand hx hb dX5_layMinors_43 ?_
  refine lv_eqi (v := 0) (by decide) ?_
  refine lv_iadd hx hb dX5_layMinors_44 ?_
  refine lv_eqi (v := (-1)) (by decide) ?_
  refine lv_istore_n (lv' := [(2, .int (-1)), (3, .int 0), (0, .ref o), (1, .int 60)]) hx hb dX5_layMinors_45 rfl hl (by decide) rfl (fun ls hl => ?_)
  refine lv_iinc (v := 1) (lv' := [(3, .int 1), (2, .int (-1)), (0, .ref o), (1, .int 60)]) hx hb dX5_layMinors_46 hl (k := 1) rfl (by decide) (by decide) rfl (fun ls hl => ?_)
  refine lv_goto (tgt := 20) hx hb dX5_layMinors_49 (by decide) ?_
  refine lv_iload_n hx hb dX5_layMinors_20 rfl (lv_at hl 0 rfl) ?_
  refine lv_bipush (v := 6) hx hb dX5_layMinors_21 (by decide) ?_
  refine lv_icmp_ge (tgt := 52) hx hb dX5_layMinors_23 (by decide) (fun h => absurd h (by decide)) (fun _ => ?_)
  refine lv_iload_n hx hb dX5_layMinors_26 rfl (lv_at hl 1 rfl) ?_
  refine lv_ldc hx hb hown k_3 dX5_layMinors_27 ?_
  refine lv_icmp_ne (tgt := 36) hx hb dX5_layMinors_29 (by decide) (fun _ => ?_) (fun h => absurd h (by decide))
  refine lv_iload_n hx hb dX5_layMinors_36 rfl (lv_at hl 1 rfl) ?_
  refine lv_istore_n (lv' := [(2, .int (-1)), (3, .int 1), (0, .ref o), (1, .int 60)]) hx hb dX5_layMinors_37 rfl hl (by decide) rfl (fun ls hl => ?_)
  refine lv_iload_n hx hb dX5_layMinors_38 rfl (lv_at hl 0 rfl) ?_
  refine lv_iload_n hx hb dX5_layMinors_39 rfl (lv_at hl 3 rfl) ?_
  refine lv_iload_n hx hb dX5_layMinors_40 rfl (lv_at hl 1 rfl) ?_
  refine lv_ishr hx hb dX5_layMinors_41 ?_
  refine lv_eqi (v := 30) (by decide) ?_
  refine lv_iconst (v := 1) hx hb dX5_layMinors_42 (by decide) ?_
  refine lv_iand hx hb dX5_layMinors_43 ?_
  refine lv_eqi (v := 0) (by decide) ?_
  refine lv_iadd hx hb dX5_layMinors_44 ?_
  refine lv_eqi (v := (-1)) (by decide) ?_
  refine lv_istore_n (lv' := [(2, .int (-1)), (3, .int 1), (0, .ref o), (1, .int 60)]) hx hb dX5_layMinors_45 rfl hl (by decide) rfl (fun ls hl => ?_)
  refine lv_iinc (v := 2) (lv' := [(3, .int 2), (2, .int (-1)), (0, .ref o), (1, .int 60)]) hx hb dX5_layMinors_46 hl (k := 1) rfl (by decide) (by decide) rfl (fun ls hl => ?_)
  refine lv_goto (tgt := 20) hx hb dX5_layMinors_49 (by decide) ?_
  refine lv_iload_n hx hb dX5_layMinors_20 rfl (lv_at hl 0 rfl) ?_
  refine lv_bipush (v := 6) hx hb dX5_layMinors_21 (by decide) ?_
  refine lv_icmp_ge (tgt := 52) hx hb dX5_layMinors_23 (by decide) (fun h => absurd h (by decide)) (fun _ => ?_)
  refine lv_iload_n hx hb dX5_layMinors_26 rfl (lv_at hl 1 rfl) ?_
  refine lv_ldc hx hb hown k_3 dX5_layMinors_27 ?_
  refine lv_icmp_ne (tgt := 36) hx hb dX5_layMinors_29 (by decide) (fun _ => ?_) (fun h => absurd h (by decide))
  refine lv_iload_n hx hb dX5_layMinors_36 rfl (lv_at hl 1 rfl) ?_
  refine lv_istore_n (lv' := [(2, .int (-1)), (3, .int 2), (0, .ref o), (1, .int 60)]) hx hb dX5_layMinors_37 rfl hl (by decide) rfl (fun ls hl => ?_)
  refine lv_iload_n hx hb dX5_layMinors_38 rfl (lv_at hl 0 rfl) ?_
  refine lv_iload_n hx hb dX5_layMinors_39 rfl (lv_at hl 3 rfl) ?_
  refine lv_iload_n hx hb dX5_layMinors_40 rfl (lv_at hl 1 rfl) ?_
  refine lv_ishr hx hb dX5_layMinors_41 ?_
  refine lv_eqi (v := 15) (by decide) ?_
  refine lv_iconst (v := 1) hx hb dX5_layMinors_42 (by decide) ?_
  refine lv_iand hx hb dX5_layMinors_43 ?_
  refine lv_eqi (v := 1) (by decide) ?_
  refine lv_iadd hx hb dX5_layMinors_44 ?_
  refine lv_eqi (v := 0) (by decide) ?_
  refine lv_istore_n (lv' := [(2, .int 0), (3, .int 2), (0, .ref o), (1, .int 60)]) hx hb dX5_layMinors_45 rfl hl (by decide) rfl (fun ls hl => ?_)
  refine lv_iinc (v := 3) (lv' := [(3, .int 3), (2, .int 0), (0, .ref o), (1, .int 60)]) hx hb dX5_layMinors_46 hl (k := 1) rfl (by decide) (by decide) rfl (fun ls hl => ?_)
  refine lv_goto (tgt := 20) hx hb dX5_layMinors_49 (by decide) ?_
  refine lv_iload_n hx hb dX5_layMinors_20 rfl (lv_at hl 0 rfl) ?_
  refine lv_bipush (v := 6) hx hb dX5_layMinors_21 (by decide) ?_
  refine lv_icmp_ge (tgt := 52) hx hb dX5_layMinors_23 (by decide) (fun h => absurd h (by decide)) (fun _ => ?_)
  refine lv_iload_n hx hb dX5_layMinors_26 rfl (lv_at hl 1 rfl) ?_
  refine lv_ldc hx hb hown k_3 dX5_layMinors_27 ?_
  refine lv_icmp_ne (tgt := 36) hx hb dX5_layMinors_29 (by decide) (fun _ => ?_) (fun h => absurd h (by decide))
  refine lv_iload_n hx hb dX5_layMinors_36 rfl (lv_at hl 1 rfl) ?_
  refine lv_istore_n (lv' := [(2, .int 0), (3, .int 3), (0, .ref o), (1, .int 60)]) hx hb dX5_layMinors_37 rfl hl (by decide) rfl (fun ls hl => ?_)
  refine lv_iload_n hx hb dX5_layMinors_38 rfl (lv_at hl 0 rfl) ?_
  refine lv_iload_n hx hb dX5_layMinors_39 rfl (lv_at hl 3 rfl) ?_
  refine lv_iload_n hx hb dX5_layMinors_40 rfl (lv_at hl 1 rfl) ?_
  refine lv_ishr hx hb dX5_layMinors_41 ?_
  refine lv_eqi (v := 7) (by decide) ?_
  refine lv_iconst (v := 1) hx hb dX5_layMinors_42 (by decide) ?_
  refine lv_iand hx hb dX5_layMinors_43 ?_
  refine lv_eqi (v := 1) (by decide) ?_
  refine lv_iadd hx hb dX5_layMinors_44 ?_
  refine lv_eqi (v := 1) (by decide) ?_
  refine lv_istore_n (lv' := [(2, .int 1), (3, .int 3), (0, .ref o), (1, .int 60)]) hx hb dX5_layMinors_45 rfl hl (by decide) rfl (fun ls hl => ?_)
  refine lv_iinc (v := 4) (lv' := [(3, .int 4), (2, .int 1), (0, .ref o), (1, .int 60)]) hx hb dX5_layMinors_46 hl (k := 1) rfl (by decide) (by decide) rfl (fun ls hl => ?_)
  refine lv_goto (tgt := 20) hx hb dX5_layMinors_49 (by decide) ?_
  refine lv_iload_n hx hb dX5_layMinors_20 rfl (lv_at hl 0 rfl) ?_
  refine lv_bipush (v := 6) hx hb dX5_layMinors_21 (by decide) ?_
  refine lv_icmp_ge (tgt := 52) hx hb dX5_layMinors_23 (by decide) (fun h => absurd h (by decide)) (fun _ => ?_)
  refine lv_iload_n hx hb dX5_layMinors_26 rfl (lv_at hl 1 rfl) ?_
  refine lv_ldc hx hb hown k_3 dX5_layMinors_27 ?_
  refine lv_icmp_ne (tgt := 36) hx hb dX5_layMinors_29 (by decide) (fun _ => ?_) (fun h => absurd h (by decide))
  refine lv_iload_n hx hb dX5_layMinors_36 rfl (lv_at hl 1 rfl) ?_
  refine lv_istore_n (lv' := [(2, .int 1), (3, .int 4), (0, .ref o), (1, .int 60)]) hx hb dX5_layMinors_37 rfl hl (by decide) rfl (fun ls hl => ?_)
  refine lv_iload_n hx hb dX5_layMinors_38 rfl (lv_at hl 0 rfl) ?_
  refine lv_iload_n hx hb dX5_layMinors_39 rfl (lv_at hl 3 rfl) ?_
  refine lv_iload_n hx hb dX5_layMinors_40 rfl (lv_at hl 1 rfl) ?_
  refine lv_ishr hx hb dX5_layMinors_41 ?_
  refine lv_eqi (v := 3) (by decide) ?_
  refine lv_iconst (v := 1) hx hb dX5_layMinors_42 (by decide) ?_
  refine lv_iand hx hb dX5_layMinors_43 ?_
  refine lv_eqi (v := 1) (by decide) ?_
  refine lv_iadd hx hb dX5_layMinors_44 ?_
  refine lv_eqi (v := 2) (by decide) ?_
  refine lv_istore_n (lv' := [(2, .int 2), (3, .int 4), (0, .ref o), (1, .int 60)]) hx hb dX5_layMinors_45 rfl hl (by decide) rfl (fun ls hl => ?_)
  refine lv_iinc (v := 5) (lv' := [(3, .int 5), (2, .int 2), (0, .ref o), (1, .int 60)]) hx hb dX5_layMinors_46 hl (k := 1) rfl (by decide) (by decide) rfl (fun ls hl => ?_)
  refine lv_goto (tgt := 20) hx hb dX5_layMinors_49 (by decide) ?_
  refine lv_iload_n hx hb dX5_layMinors_20 rfl (lv_at hl 0 rfl) ?_
  refine lv_bipush (v := 6) hx hb dX5_layMinors_21 (by decide) ?_
  refine lv_icmp_ge (tgt := 52) hx hb dX5_layMinors_23 (by decide) (fun h => absurd h (by decide)) (fun _ => ?_)
  refine lv_iload_n hx hb dX5_layMinors_26 rfl (lv_at hl 1 rfl) ?_
  refine lv_ldc hx hb hown k_3 dX5_layMinors_27 ?_
  refine lv_icmp_ne (tgt := 36) hx hb dX5_layMinors_29 (by decide) (fun _ => ?_) (fun h => absurd h (by decide))
  refine lv_iload_n hx hb dX5_layMinors_36 rfl (lv_at hl 1 rfl) ?_
  refine lv_istore_n (lv' := [(2, .int 2), (3, .int 5), (0, .ref o), (1, .int 60)]) hx hb dX5_layMinors_37 rfl hl (by decide) rfl (fun ls hl => ?_)
  refine lv_iload_n hx hb dX5_layMinors_38 rfl (lv_at hl 0 rfl) ?_
  refine lv_iload_n hx hb dX5_layMinors_39 rfl (lv_at hl 3 rfl) ?_
  refine lv_iload_n hx hb dX5_layMinors_40 rfl (lv_at hl 1 rfl) ?_
  refine lv_ishr hx hb dX5_layMinors_41 ?_
  refine lv_eqi (v := 1) (by decide) ?_
  refine lv_iconst (v := 1) hx hb dX5_layMinors_42 (by decide) ?_
  refine lv_iand hx hb dX5_layMinors_43 ?_
  refine lv_eqi (v := 1) (by decide) ?_
  refine lv_iadd hx hb dX5_layMinors_44 ?_
  refine lv_eqi (v := 3) (by decide) ?_
  refine lv_istore_n (lv' := [(2, .int 3), (3, .int 5), (0, .ref o), (1, .int 60)]) hx hb dX5_layMinors_45 rfl hl (by decide) rfl (fun ls hl => ?_)
  refine lv_iinc (v := 6) (lv' := [(3, .int 6), (2, .int 3), (0, .ref o), (1, .int 60)]) hx hb dX5_layMinors_46 hl (k := 1) rfl (by decide) (by decide) rfl (fun ls hl => ?_)
  refine lv_goto (tgt := 20) hx hb dX5_layMinors_49 (by decide) ?_
  refine lv_iload_n hx hb dX5_layMinors_20 rfl (lv_at hl 0 rfl) ?_
  refine lv_bipush (v := 6) hx hb dX5_layMinors_21 (by decide) ?_
  refine lv_icmp_ge (tgt := 52) hx hb dX5_layMinors_23 (by decide) (fun _ => ?_) (fun h => absurd (by decide) h)
  refine lv_lconst (v := 0) hx hb dX5_layMinors_52 (by decide) ?_
  refine lv_lstore_n (lv' := [(3, .long 0), (2, .int 3), (0, .ref o), (1, .int 60)]) hx hb dX5_layMinors_53 rfl hl (by decide) rfl (fun ls hl => ?_)
  refine lv_iload_n hx hb dX5_layMinors_54 rfl (lv_at hl 1 rfl) ?_
  refine lv_istore (lv' := [(5, .int 3), (3, .long 0), (2, .int 3), (0, .ref o), (1, .int 60)]) hx hb dX5_layMinors_55 hl (by decide) rfl (fun ls hl => ?_)
  refine lv_iconst (v := 0) hx hb dX5_layMinors_57 (by decide) ?_
  refine lv_istore (lv' := [(6, .int 0), (5, .int 3), (3, .long 0), (2, .int 3), (0, .ref o), (1, .int 60)]) hx hb dX5_layMinors_58 hl (by decide) rfl (fun ls hl => ?_)
  refine lv_iload hx hb dX5_layMinors_60 (lv_at hl 0 rfl) ?_
  refine lv_bipush (v := 6) hx hb dX5_layMinors_62 (by decide) ?_
  refine lv_icmp_ge (tgt := 135) hx hb dX5_layMinors_64 (by decide) (fun h => absurd h (by decide)) (fun _ => ?_)
  refine lv_iload_n hx hb dX5_layMinors_67 rfl (lv_at hl 3 rfl) ?_
  refine lv_iconst (v := 5) hx hb dX5_layMinors_68 (by decide) ?_
  refine lv_icmp_ge (tgt := 135) hx hb dX5_layMinors_69 (by decide) (fun h => absurd h (by decide)) (fun _ => ?_)
  refine lv_iload_n hx hb dX5_layMinors_72 rfl (lv_at hl 5 rfl) ?_
  refine lv_iload hx hb dX5_layMinors_73 (lv_at hl 0 rfl) ?_
  refine lv_ishr hx hb dX5_layMinors_75 ?_
  refine lv_eqi (v := 60) (by decide) ?_
  refine lv_iconst (v := 1) hx hb dX5_layMinors_76 (by decide) ?_
  refine lv_iand hx hb dX5_layMinors_77 ?_
  refine lv_eqi (v := 0) (by decide) ?_
  refine lv_iconst (v := 1) hx hb dX5_layMinors_78 (by decide) ?_
  refine lv_icmp_ne (tgt := 129) hx hb dX5_layMinors_79 (by decide) (fun _ => ?_) (fun h => absurd h (by decide))
  refine lv_iinc (v := 1) (lv' := [(6, .int 1), (5, .int 3), (3, .long 0), (2, .int 3), (0, .ref o), (1, .int 60)]) hx hb dX5_layMinors_129 hl (k := 0) rfl (by decide) (by decide) rfl (fun ls hl => ?_)
  refine lv_goto (tgt := 60) hx hb dX5_layMinors_132 (by decide) ?_
  refine lv_iload hx hb dX5_layMinors_60 (lv_at hl 0 rfl) ?_
  refine lv_bipush (v := 6) hx hb dX5_layMinors_62 (by decide) ?_
  refine lv_icmp_ge (tgt := 135) hx hb dX5_layMinors_64 (by decide) (fun h => absurd h (by decide)) (fun _ => ?_)
  refine lv_iload_n hx hb dX5_layMinors_67 rfl (lv_at hl 3 rfl) ?_
  refine lv_iconst (v := 5) hx hb dX5_layMinors_68 (by decide) ?_
  refine lv_icmp_ge (tgt := 135) hx hb dX5_layMinors_69 (by decide) (fun h => absurd h (by decide)) (fun _ => ?_)
  refine lv_iload_n hx hb dX5_layMinors_72 rfl (lv_at hl 5 rfl) ?_
  refine lv_iload hx hb dX5_layMinors_73 (lv_at hl 0 rfl) ?_
  refine lv_ishr hx hb dX5_layMinors_75 ?_
  refine lv_eqi (v := 30) (by decide) ?_
  refine lv_iconst (v := 1) hx hb dX5_layMinors_76 (by decide) ?_
  refine lv_iand hx hb dX5_layMinors_77 ?_
  refine lv_eqi (v := 0) (by decide) ?_
  refine lv_iconst (v := 1) hx hb dX5_layMinors_78 (by decide) ?_
  refine lv_icmp_ne (tgt := 129) hx hb dX5_layMinors_79 (by decide) (fun _ => ?_) (fun h => absurd h (by decide))
  refine lv_iinc (v := 2) (lv' := [(6, .int 2), (5, .int 3), (3, .long 0), (2, .int 3), (0, .ref o), (1, .int 60)]) hx hb dX5_layMinors_129 hl (k := 0) rfl (by decide) (by decide) rfl (fun ls hl => ?_)
  refine lv_goto (tgt := 60) hx hb dX5_layMinors_132 (by decide) ?_
  refine lv_iload hx hb dX5_layMinors_60 (lv_at hl 0 rfl) ?_
  refine lv_bipush (v := 6) hx hb dX5_layMinors_62 (by decide) ?_
  refine lv_icmp_ge (tgt := 135) hx hb dX5_layMinors_64 (by decide) (fun h => absurd h (by decide)) (fun _ => ?_)
  refine lv_iload_n hx hb dX5_layMinors_67 rfl (lv_at hl 3 rfl) ?_
  refine lv_iconst (v := 5) hx hb dX5_layMinors_68 (by decide) ?_
  refine lv_icmp_ge (tgt := 135) hx hb dX5_layMinors_69 (by decide) (fun h => absurd h (by decide)) (fun _ => ?_)
  refine lv_iload_n hx hb dX5_layMinors_72 rfl (lv_at hl 5 rfl) ?_
  refine lv_iload hx hb dX5_layMinors_73 (lv_at hl 0 rfl) ?_
  refine lv_ishr hx hb dX5_layMinors_75 ?_
  refine lv_eqi (v := 15) (by decide) ?_
  refine lv_iconst (v := 1) hx hb dX5_layMinors_76 (by decide) ?_
  refine lv_iand hx hb dX5_layMinors_77 ?_
  refine lv_eqi (v := 1) (by decide) ?_
  refine lv_iconst (v := 1) hx hb dX5_layMinors_78 (by decide) ?_
  refine lv_icmp_ne (tgt := 129) hx hb dX5_layMinors_79 (by decide) (fun h => absurd (by decide) h) (fun _ => ?_)
  refine lv_aload_n hx hb dX5_layMinors_82 rfl (lv_at hl 4 rfl) ?_
  refine va_get (D := D) (ci := 5) (v := .ref mR) (C := RX5) (T := TX5) (N := 17) hx hb hts k_2 hown hK.1 hP 0 rfl rfl 5 (by decide) k_4 (fun _ h9 => h9) rfl dX5_layMinors_83 ?_
  refine lv_bipush (v := 6) hx hb dX5_layMinors_86 (by decide) ?_
  refine lv_iload_n hx hb dX5_layMinors_88 rfl (lv_at hl 3 rfl) ?_
  refine lv_imul hx hb dX5_layMinors_89 ?_
  refine lv_eqi (v := 18) (by decide) ?_
  refine lv_iload hx hb dX5_layMinors_90 (lv_at hl 0 rfl) ?_
  refine lv_iadd hx hb dX5_layMinors_92 ?_
  refine lv_eqi (v := 20) (by decide) ?_
  refine ld_l hx hb hK.1 hP 1 1 rfl rfl (ix_lit (by decide)) 20 (by decide) (v := fr 20) rfl dX5_layMinors_93 ?_
  refine lv_aload_n hx hb dX5_layMinors_94 rfl (lv_at hl 4 rfl) ?_
  refine va_get (D := D) (ci := 5) (v := .ref mD) (C := RX5) (T := TX5) (N := 17) hx hb hts k_2 hown hK.1 hP 0 rfl rfl 6 (by decide) k_1 (fun _ h9 => h9) rfl dX5_layMinors_95 ?_
  refine lv_iload_n hx hb dX5_layMinors_98 rfl (lv_at hl 5 rfl) ?_
  refine lv_iconst (v := 1) hx hb dX5_layMinors_99 (by decide) ?_
  refine lv_iload hx hb dX5_layMinors_100 (lv_at hl 0 rfl) ?_
  refine lv_ishl hx hb dX5_layMinors_102 ?_
  refine lv_eqi (v := 4) (by decide) ?_
  refine lv_isub hx hb dX5_layMinors_103 ?_
  refine lv_eqi (v := 56) (by decide) ?_
  refine ld_l hx hb hK.1 hP 2 1 rfl rfl (ix_lit (by decide)) 56 (by decide) (v := z5_mw56 fr) rfl dX5_layMinors_104 ?_
  refine lv_lmul hx hb dX5_layMinors_105 ?_
  refine lv_lstore (lv' := [(7, .long ((fr 20) * (z5_mw56 fr))), (6, .int 2), (5, .int 3), (3, .long 0), (2, .int 3), (0, .ref o), (1, .int 60)]) hx hb dX5_layMinors_106 hl (by decide) rfl (fun ls hl => ?_)
  refine lv_lload_n hx hb dX5_layMinors_108 rfl (lv_at hl 3 rfl) ?_
  refine lv_iload hx hb dX5_layMinors_109 (lv_at hl 2 rfl) ?_
  refine lv_iconst (v := 2) hx hb dX5_layMinors_111 (by decide) ?_
  refine lv_irem hx hb dX5_layMinors_112 (by decide) ?_
  refine lv_eqi (v := 1) (by decide) ?_
  refine lv_if_ne (tgt := 121) hx hb dX5_layMinors_113 (by decide) (fun _ => ?_) (fun h => absurd h (by decide))
  refine lv_lload hx hb dX5_layMinors_121 (lv_at hl 0 rfl) ?_
  refine lv_lneg hx hb dX5_layMinors_123 ?_
  refine lv_ladd hx hb dX5_layMinors_124 ?_
  refine lv_lstore_n (lv' := [(3, .long (0 + (-((fr 20) * (z5_mw56 fr))))), (7, .long ((fr 20) * (z5_mw56 fr))), (6, .int 2), (5, .int 3), (2, .int 3), (0, .ref o), (1, .int 60)]) hx hb dX5_layMinors_125 rfl hl (by decide) rfl (fun ls hl => ?_)
  refine lv_iinc (v := 2) (lv' := [(5, .int 2), (3, .long (0 + (-((fr 20) * (z5_mw56 fr))))), (7, .long ((fr 20) * (z5_mw56 fr))), (6, .int 2), (2, .int 3), (0, .ref o), (1, .int 60)]) hx hb dX5_layMinors_126 hl (k := 3) rfl (by decide) (by decide) rfl (fun ls hl => ?_)
  refine lv_iinc (v := 3) (lv' := [(6, .int 3), (5, .int 2), (3, .long (0 + (-((fr 20) * (z5_mw56 fr))))), (7, .long ((fr 20) * (z5_mw56 fr))), (2, .int 3), (0, .ref o), (1, .int 60)]) hx hb dX5_layMinors_129 hl (k := 3) rfl (by decide) (by decide) rfl (fun ls hl => ?_)
  refine lv_goto (tgt := 60) hx hb dX5_layMinors_132 (by decide) ?_
  refine lv_iload hx hb dX5_layMinors_60 (lv_at hl 0 rfl) ?_
  refine lv_bipush (v := 6) hx hb dX5_layMinors_62 (by decide) ?_
  refine lv_icmp_ge (tgt := 135) hx hb dX5_layMinors_64 (by decide) (fun h => absurd h (by decide)) (fun _ => ?_)
  refine lv_iload_n hx hb dX5_layMinors_67 rfl (lv_at hl 4 rfl) ?_
  refine lv_iconst (v := 5) hx hb dX5_layMinors_68 (by decide) ?_
  refine lv_icmp_ge (tgt := 135) hx hb dX5_layMinors_69 (by decide) (fun h => absurd h (by decide)) (fun _ => ?_)
  refine lv_iload_n hx hb dX5_layMinors_72 rfl (lv_at hl 6 rfl) ?_
  refine lv_iload hx hb dX5_layMinors_73 (lv_at hl 0 rfl) ?_
  refine lv_ishr hx hb dX5_layMinors_75 ?_
  refine lv_eqi (v := 7) (by decide) ?_
  refine lv_iconst (v := 1) hx hb dX5_layMinors_76 (by decide) ?_
  refine lv_iand hx hb dX5_layMinors_77 ?_
  refine lv_eqi (v := 1) (by decide) ?_
  refine lv_iconst (v := 1) hx hb dX5_layMinors_78 (by decide) ?_
  refine lv_icmp_ne (tgt := 129) hx hb dX5_layMinors_79 (by decide) (fun h => absurd (by decide) h) (fun _ => ?_)
  refine lv_aload_n hx hb dX5_layMinors_82 rfl (lv_at hl 5 rfl) ?_
  refine va_get (D := D) (ci := 5) (v := .ref mR) (C := RX5) (T := TX5) (N := 17) hx hb hts k_2 hown hK.1 hP 0 rfl rfl 5 (by decide) k_4 (fun _ h9 => h9) rfl dX5_layMinors_83 ?_
  refine lv_bipush (v := 6) hx hb dX5_layMinors_86 (by decide) ?_
  refine lv_iload_n hx hb dX5_layMinors_88 rfl (lv_at hl 4 rfl) ?_
  refine lv_imul hx hb dX5_layMinors_89 ?_
  refine lv_eqi (v := 18) (by decide) ?_
  refine lv_iload hx hb dX5_layMinors_90 (lv_at hl 0 rfl) ?_
  refine lv_iadd hx hb dX5_layMinors_92 ?_
  refine lv_eqi (v := 21) (by decide) ?_
  refine ld_l hx hb hK.1 hP 1 1 rfl rfl (ix_lit (by decide)) 21 (by decide) (v := fr 21) rfl dX5_layMinors_93 ?_
  refine lv_aload_n hx hb dX5_layMinors_94 rfl (lv_at hl 5 rfl) ?_
  refine va_get (D := D) (ci := 5) (v := .ref mD) (C := RX5) (T := TX5) (N := 17) hx hb hts k_2 hown hK.1 hP 0 rfl rfl 6 (by decide) k_1 (fun _ h9 => h9) rfl dX5_layMinors_95 ?_
  refine lv_iload_n hx hb dX5_layMinors_98 rfl (lv_at hl 6 rfl) ?_
  refine lv_iconst (v := 1) hx hb dX5_layMinors_99 (by decide) ?_
  refine lv_iload hx hb dX5_layMinors_100 (lv_at hl 0 rfl) ?_
  refine lv_ishl hx hb dX5_layMinors_102 ?_
  refine lv_eqi (v := 8) (by decide) ?_
  refine lv_isub hx hb dX5_layMinors_103 ?_
  refine lv_eqi (v := 52) (by decide) ?_
  refine ld_l hx hb hK.1 hP 2 1 rfl rfl (ix_lit (by decide)) 52 (by decide) (v := z5_mw52 fr) rfl dX5_layMinors_104 ?_
  refine lv_lmul hx hb dX5_layMinors_105 ?_
  refine lv_lstore (lv' := [(7, .long ((fr 21) * (z5_mw52 fr))), (6, .int 3), (5, .int 2), (3, .long (0 + (-((fr 20) * (z5_mw56 fr))))), (2, .int 3), (0, .ref o), (1, .int 60)]) hx hb dX5_layMinors_106 hl (by decide) rfl (fun ls hl => ?_)
  refine lv_lload_n hx hb dX5_layMinors_108 rfl (lv_at hl 3 rfl) ?_
  refine lv_iload hx hb dX5_layMinors_109 (lv_at hl 2 rfl) ?_
  refine lv_iconst (v := 2) hx hb dX5_layMinors_111 (by decide) ?_
  refine lv_irem hx hb dX5_layMinors_112 (by decide) ?_
  refine lv_eqi (v := 0) (by decide) ?_
  refine lv_if_ne (tgt := 121) hx hb dX5_layMinors_113 (by decide) (fun h => absurd (by decide) h) (fun _ => ?_)
  refine lv_lload hx hb dX5_layMinors_116 (lv_at hl 0 rfl) ?_
  refine lv_goto (tgt := 124) hx hb dX5_layMinors_118 (by decide) ?_
  refine lv_ladd hx hb dX5_layMinors_124 ?_
  refine lv_lstore_n (lv' := [(3, .long ((0 + (-((fr 20) * (z5_mw56 fr)))) + ((fr 21) * (z5_mw52 fr)))), (7, .long ((fr 21) * (z5_mw52 fr))), (6, .int 3), (5, .int 2), (2, .int 3), (0, .ref o), (1, .int 60)]) hx hb dX5_layMinors_125 rfl hl (by decide) rfl (fun ls hl => ?_)
  refine lv_iinc (v := 1) (lv' := [(5, .int 1), (3, .long ((0 + (-((fr 20) * (z5_mw56 fr)))) + ((fr 21) * (z5_mw52 fr)))), (7, .long ((fr 21) * (z5_mw52 fr))), (6, .int 3), (2, .int 3), (0, .ref o), (1, .int 60)]) hx hb dX5_layMinors_126 hl (k := 3) rfl (by decide) (by decide) rfl (fun ls hl => ?_)
  refine lv_iinc (v := 4) (lv' := [(6, .int 4), (5, .int 1), (3, .long ((0 + (-((fr 20) * (z5_mw56 fr)))) + ((fr 21) * (z5_mw52 fr)))), (7, .long ((fr 21) * (z5_mw52 fr))), (2, .int 3), (0, .ref o), (1, .int 60)]) hx hb dX5_layMinors_129 hl (k := 3) rfl (by decide) (by decide) rfl (fun ls hl => ?_)
  refine lv_goto (tgt := 60) hx hb dX5_layMinors_132 (by decide) ?_
  refine lv_iload hx hb dX5_layMinors_60 (lv_at hl 0 rfl) ?_
  refine lv_bipush (v := 6) hx hb dX5_layMinors_62 (by decide) ?_
  refine lv_icmp_ge (tgt := 135) hx hb dX5_layMinors_64 (by decide) (fun h => absurd h (by decide)) (fun _ => ?_)
  refine lv_iload_n hx hb dX5_layMinors_67 rfl (lv_at hl 4 rfl) ?_
  refine lv_iconst (v := 5) hx hb dX5_layMinors_68 (by decide) ?_
  refine lv_icmp_ge (tgt := 135) hx hb dX5_layMinors_69 (by decide) (fun h => absurd h (by decide)) (fun _ => ?_)
  refine lv_iload_n hx hb dX5_layMinors_72 rfl (lv_at hl 6 rfl) ?_
  refine lv_iload hx hb dX5_layMinors_73 (lv_at hl 0 rfl) ?_
  refine lv_ishr hx hb dX5_layMinors_75 ?_
  refine lv_eqi (v := 3) (by decide) ?_
  refine lv_iconst (v := 1) hx hb dX5_layMinors_76 (by decide) ?_
  refine lv_iand hx hb dX5_layMinors_77 ?_
  refine lv_eqi (v := 1) (by decide) ?_
  refine lv_iconst (v := 1) hx hb dX5_layMinors_78 (by decide) ?_
  refine lv_icmp_ne (tgt := 129) hx hb dX5_layMinors_79 (by decide) (fun h => absurd (by decide) h) (fun _ => ?_)
  refine lv_aload_n hx hb dX5_layMinors_82 rfl (lv_at hl 5 rfl) ?_
  refine va_get (D := D) (ci := 5) (v := .ref mR) (C := RX5) (T := TX5) (N := 17) hx hb hts k_2 hown hK.1 hP 0 rfl rfl 5 (by decide) k_4 (fun _ h9 => h9) rfl dX5_layMinors_83 ?_
  refine lv_bipush (v := 6) hx hb dX5_layMinors_86 (by decide) ?_
  refine lv_iload_n hx hb dX5_layMinors_88 rfl (lv_at hl 4 rfl) ?_
  refine lv_imul hx hb dX5_layMinors_89 ?_
  refine lv_eqi (v := 18) (by decide) ?_
  refine lv_iload hx hb dX5_layMinors_90 (lv_at hl 0 rfl) ?_
  refine lv_iadd hx hb dX5_layMinors_92 ?_
  refine lv_eqi (v := 22) (by decide) ?_
  refine ld_l hx hb hK.1 hP 1 1 rfl rfl (ix_lit (by decide)) 22 (by decide) (v := fr 22) rfl dX5_layMinors_93 ?_
  refine lv_aload_n hx hb dX5_layMinors_94 rfl (lv_at hl 5 rfl) ?_
  refine va_get (D := D) (ci := 5) (v := .ref mD) (C := RX5) (T := TX5) (N := 17) hx hb hts k_2 hown hK.1 hP 0 rfl rfl 6 (by decide) k_1 (fun _ h9 => h9) rfl dX5_layMinors_95 ?_
  refine lv_iload_n hx hb dX5_layMinors_98 rfl (lv_at hl 6 rfl) ?_
  refine lv_iconst (v := 1) hx hb dX5_layMinors_99 (by decide) ?_
  refine lv_iload hx hb dX5_layMinors_100 (lv_at hl 0 rfl) ?_
  refine lv_ishl hx hb dX5_layMinors_102 ?_
  refine lv_eqi (v := 16) (by decide) ?_
  refine lv_isub hx hb dX5_layMinors_103 ?_
  refine lv_eqi (v := 44) (by decide) ?_
  refine ld_l hx hb hK.1 hP 2 1 rfl rfl (ix_lit (by decide)) 44 (by decide) (v := z5_mw44 fr) rfl dX5_layMinors_104 ?_
  refine lv_lmul hx hb dX5_layMinors_105 ?_
  refine lv_lstore (lv' := [(7, .long ((fr 22) * (z5_mw44 fr))), (6, .int 4), (5, .int 1), (3, .long ((0 + (-((fr 20) * (z5_mw56 fr)))) + ((fr 21) * (z5_mw52 fr)))), (2, .int 3), (0, .ref o), (1, .int 60)]) hx hb dX5_layMinors_106 hl (by decide) rfl (fun ls hl => ?_)
  refine lv_lload_n hx hb dX5_layMinors_108 rfl (lv_at hl 3 rfl) ?_
  refine lv_iload hx hb dX5_layMinors_109 (lv_at hl 2 rfl) ?_
  refine lv_iconst (v := 2) hx hb dX5_layMinors_111 (by decide) ?_
  refine lv_irem hx hb dX5_layMinors_112 (by decide) ?_
  refine lv_eqi (v := 1) (by decide) ?_
  refine lv_if_ne (tgt := 121) hx hb dX5_layMinors_113 (by decide) (fun _ => ?_) (fun h => absurd h (by decide))
  refine lv_lload hx hb dX5_layMinors_121 (lv_at hl 0 rfl) ?_
  refine lv_lneg hx hb dX5_layMinors_123 ?_
  refine lv_ladd hx hb dX5_layMinors_124 ?_
  refine lv_lstore_n (lv' := [(3, .long (((0 + (-((fr 20) * (z5_mw56 fr)))) + ((fr 21) * (z5_mw52 fr))) + (-((fr 22) * (z5_mw44 fr))))), (7, .long ((fr 22) * (z5_mw44 fr))), (6, .int 4), (5, .int 1), (2, .int 3), (0, .ref o), (1, .int 60)]) hx hb dX5_layMinors_125 rfl hl (by decide) rfl (fun ls hl => ?_)
  refine lv_iinc (v := 0) (lv' := [(5, .int 0), (3, .long (((0 + (-((fr 20) * (z5_mw56 fr)))) + ((fr 21) * (z5_mw52 fr))) + (-((fr 22) * (z5_mw44 fr))))), (7, .long ((fr 22) * (z5_mw44 fr))), (6, .int 4), (2, .int 3), (0, .ref o), (1, .int 60)]) hx hb dX5_layMinors_126 hl (k := 3) rfl (by decide) (by decide) rfl (fun ls hl => ?_)
  refine lv_iinc (v := 5) (lv' := [(6, .int 5), (5, .int 0), (3, .long (((0 + (-((fr 20) * (z5_mw56 fr)))) + ((fr 21) * (z5_mw52 fr))) + (-((fr 22) * (z5_mw44 fr))))), (7, .long ((fr 22) * (z5_mw44 fr))), (2, .int 3), (0, .ref o), (1, .int 60)]) hx hb dX5_layMinors_129 hl (k := 3) rfl (by decide) (by decide) rfl (fun ls hl => ?_)
  refine lv_goto (tgt := 60) hx hb dX5_layMinors_132 (by decide) ?_
  refine lv_iload hx hb dX5_layMinors_60 (lv_at hl 0 rfl) ?_
  refine lv_bipush (v := 6) hx hb dX5_layMinors_62 (by decide) ?_
  refine lv_icmp_ge (tgt := 135) hx hb dX5_layMinors_64 (by decide) (fun h => absurd h (by decide)) (fun _ => ?_)
  refine lv_iload_n hx hb dX5_layMinors_67 rfl (lv_at hl 4 rfl) ?_
  refine lv_iconst (v := 5) hx hb dX5_layMinors_68 (by decide) ?_
  refine lv_icmp_ge (tgt := 135) hx hb dX5_layMinors_69 (by decide) (fun h => absurd h (by decide)) (fun _ => ?_)
  refine lv_iload_n hx hb dX5_layMinors_72 rfl (lv_at hl 6 rfl) ?_
  refine lv_iload hx hb dX5_layMinors_73 (lv_at hl 0 rfl) ?_
  refine lv_ishr hx hb dX5_layMinors_75 ?_
  refine lv_eqi (v := 1) (by decide) ?_
  refine lv_iconst (v := 1) hx hb dX5_layMinors_76 (by decide) ?_
  refine lv_iand hx hb dX5_layMinors_77 ?_
  refine lv_eqi (v := 1) (by decide) ?_
  refine lv_iconst (v := 1) hx hb dX5_layMinors_78 (by decide) ?_
  refine lv_icmp_ne (tgt := 129) hx hb dX5_layMinors_79 (by decide) (fun h => absurd (by decide) h) (fun _ => ?_)
  refine lv_aload_n hx hb dX5_layMinors_82 rfl (lv_at hl 5 rfl) ?_
  refine va_get (D := D) (ci := 5) (v := .ref mR) (C := RX5) (T := TX5) (N := 17) hx hb hts k_2 hown hK.1 hP 0 rfl rfl 5 (by decide) k_4 (fun _ h9 => h9) rfl dX5_layMinors_83 ?_
  refine lv_bipush (v := 6) hx hb dX5_layMinors_86 (by decide) ?_
  refine lv_iload_n hx hb dX5_layMinors_88 rfl (lv_at hl 4 rfl) ?_
  refine lv_imul hx hb dX5_layMinors_89 ?_
  refine lv_eqi (v := 18) (by decide) ?_
  refine lv_iload hx hb dX5_layMinors_90 (lv_at hl 0 rfl) ?_
  refine lv_iadd hx hb dX5_layMinors_92 ?_
  refine lv_eqi (v := 23) (by decide) ?_
  refine ld_l hx hb hK.1 hP 1 1 rfl rfl (ix_lit (by decide)) 23 (by decide) (v := fr 23) rfl dX5_layMinors_93 ?_
  refine lv_aload_n hx hb dX5_layMinors_94 rfl (lv_at hl 5 rfl) ?_
  refine va_get (D := D) (ci := 5) (v := .ref mD) (C := RX5) (T := TX5) (N := 17) hx hb hts k_2 hown hK.1 hP 0 rfl rfl 6 (by decide) k_1 (fun _ h9 => h9) rfl dX5_layMinors_95 ?_
  refine lv_iload_n hx hb dX5_layMinors_98 rfl (lv_at hl 6 rfl) ?_
  refine lv_iconst (v := 1) hx hb dX5_layMinors_99 (by decide) ?_
  refine lv_iload hx hb dX5_layMinors_100 (lv_at hl 0 rfl) ?_
  refine lv_ishl hx hb dX5_layMinors_102 ?_
  refine lv_eqi (v := 32) (by decide) ?_
  refine lv_isub hx hb dX5_layMinors_103 ?_
  refine lv_eqi (v := 28) (by decide) ?_
  refine ld_l hx hb hK.1 hP 2 1 rfl rfl (ix_lit (by decide)) 28 (by decide) (v := z5_mw28 fr) rfl dX5_layMinors_104 ?_
  refine lv_lmul hx hb dX5_layMinors_105 ?_
  refine lv_lstore (lv' := [(7, .long ((fr 23) * (z5_mw28 fr))), (6, .int 5), (5, .int 0), (3, .long (((0 + (-((fr 20) * (z5_mw56 fr)))) + ((fr 21) * (z5_mw52 fr))) + (-((fr 22) * (z5_mw44 fr))))), (2, .int 3), (0, .ref o), (1, .int 60)]) hx hb dX5_layMinors_106 hl (by decide) rfl (fun ls hl => ?_)
  refine lv_lload_n hx hb dX5_layMinors_108 rfl (lv_at hl 3 rfl) ?_
  refine lv_iload hx hb dX5_layMinors_109 (lv_at hl 2 rfl) ?_
  refine lv_iconst (v := 2) hx hb dX5_layMinors_111 (by decide) ?_
  refine lv_irem hx hb dX5_layMinors_112 (by decide) ?_
  refine lv_eqi (v := 0) (by decide) ?_
  refine lv_if_ne (tgt := 121) hx hb dX5_layMinors_113 (by decide) (fun h => absurd (by decide) h) (fun _ => ?_)
  refine lv_lload hx hb dX5_layMinors_116 (lv_at hl 0 rfl) ?_
  refine lv_goto (tgt := 124) hx hb dX5_layMinors_118 (by decide) ?_
  refine lv_ladd hx hb dX5_layMinors_124 ?_
  refine lv_lstore_n (lv' := [(3, .long ((((0 + (-((fr 20) * (z5_mw56 fr)))) + ((fr 21) * (z5_mw52 fr))) + (-((fr 22) * (z5_mw44 fr)))) + ((fr 23) * (z5_mw28 fr)))), (7, .long ((fr 23) * (z5_mw28 fr))), (6, .int 5), (5, .int 0), (2, .int 3), (0, .ref o), (1, .int 60)]) hx hb dX5_layMinors_125 rfl hl (by decide) rfl (fun ls hl => ?_)
  refine lv_iinc (v := (-1)) (lv' := [(5, .int (-1)), (3, .long ((((0 + (-((fr 20) * (z5_mw56 fr)))) + ((fr 21) * (z5_mw52 fr))) + (-((fr 22) * (z5_mw44 fr)))) + ((fr 23) * (z5_mw28 fr)))), (7, .long ((fr 23) * (z5_mw28 fr))), (6, .int 5), (2, .int 3), (0, .ref o), (1, .int 60)]) hx hb dX5_layMinors_126 hl (k := 3) rfl (by decide) (by decide) rfl (fun ls hl => ?_)
  refine lv_iinc (v := 6) (lv' := [(6, .int 6), (5, .int (-1)), (3, .long ((((0 + (-((fr 20) * (z5_mw56 fr)))) + ((fr 21) * (z5_mw52 fr))) + (-((fr 22) * (z5_mw44 fr)))) + ((fr 23) * (z5_mw28 fr)))), (7, .long ((fr 23) * (z5_mw28 fr))), (2, .int 3), (0, .ref o), (1, .int 60)]) hx hb dX5_layMinors_129 hl (k := 3) rfl (by decide) (by decide) rfl (fun ls hl => ?_)
  refine lv_goto (tgt := 60) hx hb dX5_layMinors_132 (by decide) ?_
  refine lv_iload hx hb dX5_layMinors_60 (lv_at hl 0 rfl) ?_
  refine lv_bipush (v := 6) hx hb dX5_layMinors_62 (by decide) ?_
  refine lv_icmp_ge (tgt := 135) hx hb dX5_layMinors_64 (by decide) (fun _ => ?_) (fun h => absurd (by decide) h)
  refine lv_aload_n hx hb dX5_layMinors_135 rfl (lv_at hl 5 rfl) ?_
  refine va_get (D := D) (ci := 5) (v := .ref mD) (C := RX5) (T := TX5) (N := 17) hx hb hts k_2 hown hK.1 hP 0 rfl rfl 6 (by decide) k_1 (fun _ h9 => h9) rfl dX5_layMinors_136 ?_
  refine lv_iload_n hx hb dX5_layMinors_139 rfl (lv_at hl 6 rfl) ?_
  refine lv_lload_n hx hb dX5_layMinors_140 rfl (lv_at hl 2 rfl) ?_
  refine st_l hx hb hK.1 hP hD hS 2 1 rfl rfl (ix_lit (by decide)) 60 (by decide) dX5_layMinors_141 (fun H locs hP hD hS => ?_)
  have hP : va_P D vwCl [kM o mP mL mC mN mF mR mD mV mX mA mK cm mT pm mU mH mI, kJ mR cJ 30 fr, kJ mD cJ 64 (vp_updL (z5_mm60 fr fd) 60 ((((0 + (-((fr 20) * (z5_mw56 fr)))) + ((fr 21) * (z5_mw52 fr))) + (-((fr 22) * (z5_mw44 fr)))) + ((fr 23) * (z5_mw28 fr))))] H := hP
  have hD : va_D A [kM o mP mL mC mN mF mR mD mV mX mA mK cm mT pm mU mH mI, kJ mR cJ 30 fr, kJ mD cJ 64 (vp_updL (z5_mm60 fr fd) 60 ((((0 + (-((fr 20) * (z5_mw56 fr)))) + ((fr 21) * (z5_mw52 fr))) + (-((fr 22) * (z5_mw44 fr)))) + ((fr 23) * (z5_mw28 fr))))] := hD
  have hP : va_P D vwCl [kM o mP mL mC mN mF mR mD mV mX mA mK cm mT pm mU mH mI, kJ mR cJ 30 fr, kJ mD cJ 64 (z5_mm61 fr fd)] H := hP
  have hD : va_D A [kM o mP mL mC mN mF mR mD mV mX mA mK cm mT pm mU mH mI, kJ mR cJ 30 fr, kJ mD cJ 64 (z5_mm61 fr fd)] := hD
  refine lv_iinc (v := 61) (lv' := [(1, .int 61), (6, .int 6), (5, .int (-1)), (3, .long ((((0 + (-((fr 20) * (z5_mw56 fr)))) + ((fr 21) * (z5_mw52 fr))) + (-((fr 22) * (z5_mw44 fr)))) + ((fr 23) * (z5_mw28 fr)))), (7, .long ((fr 23) * (z5_mw28 fr))), (2, .int 3), (0, .ref o)]) hx hb dX5_layMinors_142 hl (k := 6) rfl (by decide) (by decide) rfl (fun ls hl => ?_)
  refine lv_goto (tgt := 9) hx hb dX5_layMinors_145 (by decide) ?_
  exact sg_X5_layMinors_61 hx hb hr hml hown hts hlk hK hA hP hD hS ls (lv_sub hl [6, 0] rfl)
set_option maxHeartbeats 4000000 in
set_option maxRecDepth 100000 in
theorem sg_X5_layMinors_59 {l : Launch} {D : va_G} {cI cJ : ClassId} {pG : Program} {eG : Env} {sG : State} {mG : MethodId} {below : List Frame} {meth : Method} {cG : Code} {A : Nat → Prop} {H : Heap} {locs : List Loc} {o : Nat} {mP : Nat} {mL : Nat} {mC : Nat} {mN : Nat} {mF : Nat} {mR : Nat} {mD : Nat} {mV : Nat} {mX : Nat} {mA : Nat} {mK : Nat} {mT : Nat} {mU : Nat} {mH : Nat} {mI : Nat} {cm : Int32} {pm : Int32} {fr : Nat → Int64} {fd : Nat → Int64} (hx : pG.tables.exec = Jvm.exec) (hb : cG.code = cX5_layMinors) (hr : meth.sig.returnType = none) (hml : cG.maxLocals = 9) (hown : sG.vm.findClass RX5 = some mG.cls) (hts : ∀ x ∈ wsX5_layMinors, x.before ([.ref o] : List Value).toArray sG = true) (hlk : meth.locks = false) (hK : gd_K D cI cJ sG) (hA : ∀ q : Nat, sG.heap.size ≤ q → A q) (hP : va_P D vwCl [kM o mP mL mC mN mF mR mD mV mX mA mK cm mT pm mU mH mI, kJ mR cJ 30 fr, kJ mD cJ 64 (z5_mm59 fr fd)] H) (hD : va_D A [kM o mP mL mC mN mF mR mD mV mX mA mK cm mT pm mU mH mI, kJ mR cJ 30 fr, kJ mD cJ 64 (z5_mm59 fr fd)]) (hS : va_S A sG.heap H locs) (ls : Array Slot) (hl : lv_has ls 9 [(0, .ref o), (1, .int 59)]) : W pG l eG (headSpec wsX5_layMinors ({ frames := 0, cells := 0, slots := 0, locals := 0 })).room sG mG ([.ref o] : List Value).toArray below meth cG H locs 0 0 (MQ below ((qe_v (fun _ : Unit => True) (fun uu => [kM o mP mL mC mN mF mR mD mV mX mA mK cm mT pm mU mH mI, kJ mR cJ 30 fr, kJ mD cJ 64 (z5_layMinors_f2 fr fd)])) D A) ([.ref o] : List Value).toArray sG 0 0 A) (F0 mG 9 ls []) := by
  have k_1 := hts (.fieldLink RX5 29 "ConicRowsModel" "minors" "[J") (by decide +kernel)
  have k_2 : ∀ w ∈ wsX50, w ∈ wsX5_layMinors := by decide +kernel
  have k_3 := hts (.constant RX5 122 (-1000001)) (by decide +kernel)
  have k_4 := hts (.fieldLink RX5 26 "ConicRowsModel" "rows" "[J") (by decide +kernel)
  refine lv_iload_n hx hb dX5_layMinors_9 rfl (lv_at hl 1 rfl) ?_
  refine lv_bipush (v := 64) hx hb dX5_layMinors_10 (by decide) ?_
  refine lv_icmp_ge (tgt := 148) hx hb dX5_layMinors_12 (by decide) (fun h => absurd h (by decide)) (fun _ => ?_)
  refine lv_ldc hx hb hown k_3 dX5_layMinors_15 ?_
  refine lv_istore_n (lv' := [(2, .int (-1000001)), (0, .ref o), (1, .int 59)]) hx hb dX5_layMinors_17 rfl hl (by decide) rfl (fun ls hl => ?_)
  refine lv_iconst (v := 0) hx hb dX5_layMinors_18 (by decide) ?_
  refine lv_istore_n (lv' := [(3, .int 0), (2, .int (-1000001)), (0, .ref o), (1, .int 59)]) hx hb dX5_layMinors_19 rfl hl (by decide) rfl (fun ls hl => ?_)
  refine lv_iload_n hx hb dX5_layMinors_20 rfl (lv_at hl 0 rfl) ?_
  refine lv_bipush (v := 6) hx hb dX5_layMinors_21 (by decide) ?_
  refine lv_icmp_ge (tgt := 52) hx hb dX5_layMinors_23 (by decide) (fun h => absurd h (by decide)) (fun _ => ?_)
  refine lv_iload_n hx hb dX5_layMinors_26 rfl (lv_at hl 1 rfl) ?_
  refine lv_ldc hx hb hown k_3 dX5_layMinors_27 ?_
  refine lv_icmp_ne (tgt := 36) hx hb dX5_layMinors_29 (by decide) (fun h => absurd (by decide) h) (fun _ => ?_)
  refine lv_iconst (v := (-1)) hx hb dX5_layMinors_32 (by decide) ?_
  refine lv_goto (tgt := 37) hx hb dX5_layMinors_33 (by decide) ?_
  refine lv_istore_n (lv' := [(2, .int (-1)), (3, .int 0), (0, .ref o), (1, .int 59)]) hx hb dX5_layMinors_37 rfl hl (by decide) rfl (fun ls hl => ?_)
  refine lv_iload_n hx hb dX5_layMinors_38 rfl (lv_at hl 0 rfl) ?_
  refine lv_iload_n hx hb dX5_layMinors_39 rfl (lv_at hl 3 rfl) ?_
  refine lv_iload_n hx hb dX5_layMinors_40 rfl (lv_at hl 1 rfl) ?_
  refine lv_ishr hx hb dX5_layMinors_41 ?_
  refine lv_eqi (v := 59) (by decide) ?_
  refine lv_iconst (v := 1) hx hb dX5_layMinors_42 (by decide) ?_
  refine lv_iand hx hb dX5_layMinors_43 ?_
  refine lv_eqi (v := 1) (by decide) ?_
  refine lv_iadd hx hb dX5_layMinors_44 ?_
  refine lv_eqi (v := 0) (by decide) ?_
  refine lv_istore_n (lv' := [(2, .int 0), (3, .int 0), (0, .ref o), (1, .int 59)]) hx hb dX5_layMinors_45 rfl hl (by decide) rfl (fun ls hl => ?_)
  refine lv_iinc (v := 1) (lv' := [(3, .int 1), (2, .int 0), (0, .ref o), (1, .int 59)]) hx hb dX5_layMinors_46 hl (k := 1) rfl (by decide) (by decide) rfl (fun ls hl => ?_)
  refine lv_goto (tgt := 20) hx hb dX5_layMinors_49 (by decide) ?_
  refine lv_iload_n hx hb dX5_layMinors_20 rfl (lv_at hl 0 rfl) ?_
  refine lv_bipush (v := 6) hx hb dX5_layMinors_21 (by decide) ?_
  refine lv_icmp_ge (tgt := 52) hx hb dX5_layMinors_23 (by decide) (fun h => absurd h (by decide)) (fun _ => ?_)
  refine lv_iload_n hx hb dX5_layMinors_26 rfl (lv_at hl 1 rfl) ?_
  refine lv_ldc hx hb hown k_3 dX5_layMinors_27 ?_
  refine lv_icmp_ne (tgt := 36) hx hb dX5_layMinors_29 (by decide) (fun _ => ?_) (fun h => absurd h (by decide))
  refine lv_iload_n hx hb dX5_layMinors_36 rfl (lv_at hl 1 rfl) ?_
  refine lv_istore_n (lv' := [(2, .int 0), (3, .int 1), (0, .ref o), (1, .int 59)]) hx hb dX5_layMinors_37 rfl hl (by decide) rfl (fun ls hl => ?_)
  refine lv_iload_n hx hb dX5_layMinors_38 rfl (lv_at hl 0 rfl) ?_
  refine lv_iload_n hx hb dX5_layMinors_39 rfl (lv_at hl 3 rfl) ?_
  refine lv_iload_n hx hb dX5_layMinors_40 rfl (lv_at hl 1 rfl) ?_
  refine lv_ishr hx hb dX5_layMinors_41 ?_
  refine lv_eqi (v := 29) (by decide) ?_
  refine lv_iconst (v := 1) hx hb dX5_layMinors_42 (by decide) ?_
  refine lv_iand hx hb dX5_layMinors_43 ?_
  refine lv_eqi (v := 1) (by decide) ?_
  refine lv_iadd hx hb dX5_layMinors_44 ?_
  refine lv_eqi (v := 1) (by decide) ?_
  refine lv_istore_n (lv' := [(2, .int 1), (3, .int 1), (0, .ref o), (1, .int 59)]) hx hb dX5_layMinors_45 rfl hl (by decide) rfl (fun ls hl => ?_)
  refine lv_iinc (v := 2) (lv' := [(3, .int 2), (2, .int 1), (0, .ref o), (1, .int 59)]) hx hb dX5_layMinors_46 hl (k := 1) rfl (by decide) (by decide) rfl (fun ls hl => ?_)
  refine lv_goto (tgt := 20) hx hb dX5_layMinors_49 (by decide) ?_
  refine lv_iload_n hx hb dX5_layMinors_20 rfl (lv_at hl 0 rfl) ?_
  refine lv_bipush (v := 6) hx hb dX5_layMinors_21 (by decide) ?_
  refine lv_icmp_ge (tgt := 52) hx hb dX5_layMinors_23 (by decide) (fun h => absurd h (by decide)) (fun _ => ?_)
  refine lv_iload_n hx hb dX5_layMinors_26 rfl (lv_at hl 1 rfl) ?_
  refine lv_ldc hx hb hown k_3 dX5_layMinors_27 ?_
  refine lv_icmp_ne (tgt := 36) hx hb dX5_layMinors_29 (by decide) (fun _ => ?_) (fun h => absurd h (by decide))
  refine lv_iload_n hx hb dX5_layMinors_36 rfl (lv_at hl 1 rfl) ?_
  refine lv_istore_n (lv' := [(2, .int 1), (3, .int 2), (0, .ref o), (1, .int 59)]) hx hb dX5_layMinors_37 rfl hl (by decide) rfl (fun ls hl => ?_)
  refine lv_iload_n hx hb dX5_layMinors_38 rfl (lv_at hl 0 rfl) ?_
  refine lv_iload_n hx hb dX5_layMinors_39 rfl (lv_at hl 3 rfl) ?_
  refine lv_iload_n hx hb dX5_layMinors_40 rfl (lv_at hl 1 rfl) ?_
  refine lv_ishr hx hb dX5_layMinors_41 ?_
  refine lv_eqi (v := 14) (by decide) ?_
  refine lv_iconst (v := 1) hx hb dX5_layMinors_42 (by decide) ?_
  refine lv_iand hx hb dX5_layMinors_43 ?_
  refine lv_eqi (v := 0) (by decide) ?_
  refine lv_iadd hx hb dX5_layMinors_44 ?_
  refine lv_eqi (v := 1) (by decide) ?_
  refine lv_istore_n (lv' := [(2, .int 1), (3, .int 2), (0, .ref o), (1, .int 59)]) hx hb dX5_layMinors_45 rfl hl (by decide) rfl (fun ls hl => ?_)
  refine lv_iinc (v := 3) (lv' := [(3, .int 3), (2, .int 1), (0, .ref o), (1, .int 59)]) hx hb dX5_layMinors_46 hl (k := 1) rfl (by decide) (by decide) rfl (fun ls hl => ?_)
  refine lv_goto (tgt := 20) hx hb dX5_layMinors_49 (by decide) ?_
  refine lv_iload_n hx hb dX5_layMinors_20 rfl (lv_at hl 0 rfl) ?_
  refine lv_bipush (v := 6) hx hb dX5_layMinors_21 (by decide) ?_
  refine lv_icmp_ge (tgt := 52) hx hb dX5_layMinors_23 (by decide) (fun h => absurd h (by decide)) (fun _ => ?_)
  refine lv_iload_n hx hb dX5_layMinors_26 rfl (lv_at hl 1 rfl) ?_
  refine lv_ldc hx hb hown k_3 dX5_layMinors_27 ?_
  refine lv_icmp_ne (tgt := 36) hx hb dX5_layMinors_29 (by decide) (fun _ => ?_) (fun h => absurd h (by decide))
  refine lv_iload_n hx hb dX5_layMinors_36 rfl (lv_at hl 1 rfl) ?_
  refine lv_istore_n (lv' := [(2, .int 1), (3, .int 3), (0, .ref o), (1, .int 59)]) hx hb dX5_layMinors_37 rfl hl (by decide) rfl (fun ls hl => ?_)
  refine lv_iload_n hx hb dX5_layMinors_38 rfl (lv_at hl 0 rfl) ?_
  refine lv_iload_n hx hb dX5_layMinors_39 rfl (lv_at hl 3 rfl) ?_
  refine lv_iload_n hx hb dX5_layMinors_40 rfl (lv_at hl 1 rfl) ?_
  refine lv_ishr hx hb dX5_layMinors_41 ?_
  refine lv_eqi (v := 7) (by decide) ?_
  refine lv_iconst (v := 1) hx hb dX5_layMinors_42 (by decide) ?_
  refine lv_iand hx hb dX5_layMinors_43 ?_
  refine lv_eqi (v := 1) (by decide) ?_
  refine lv_iadd hx hb dX5_layMinors_44 ?_
  refine lv_eqi (v := 2) (by decide) ?_
  refine lv_istore_n (lv' := [(2, .int 2), (3, .int 3), (0, .ref o), (1, .int 59)]) hx hb dX5_layMinors_45 rfl hl (by decide) rfl (fun ls hl => ?_)
  refine lv_iinc (v := 4) (lv' := [(3, .int 4), (2, .int 2), (0, .ref o), (1, .int 59)]) hx hb dX5_layMinors_46 hl (k := 1) rfl (by decide) (by decide) rfl (fun ls hl => ?_)
  refine lv_goto (tgt := 20) hx hb dX5_layMinors_49 (by decide) ?_
  refine lv_iload_n hx hb dX5_layMinors_20 rfl (lv_at hl 0 rfl) ?_
  refine lv_bipush (v := 6) hx hb dX5_layMinors_21 (by decide) ?_
  refine lv_icmp_ge (tgt := 52) hx hb dX5_layMinors_23 (by decide) (fun h => absurd h (by decide)) (fun _ => ?_)
  refine lv_iload_n hx hb dX5_layMinors_26 rfl (lv_at hl 1 rfl) ?_
  refine lv_ldc hx hb hown k_3 dX5_layMinors_27 ?_
  refine lv_icmp_ne (tgt := 36) hx hb dX5_layMinors_29 (by decide) (fun _ => ?_) (fun h => absurd h (by decide))
  refine lv_iload_n hx hb dX5_layMinors_36 rfl (lv_at hl 1 rfl) ?_
  refine lv_istore_n (lv' := [(2, .int 2), (3, .int 4), (0, .ref o), (1, .int 59)]) hx hb dX5_layMinors_37 rfl hl (by decide) rfl (fun ls hl => ?_)
  refine lv_iload_n hx hb dX5_layMinors_38 rfl (lv_at hl 0 rfl) ?_
  refine lv_iload_n hx hb dX5_layMinors_39 rfl (lv_at hl 3 rfl) ?_
  refine lv_iload_n hx hb dX5_layMinors_40 rfl (lv_at hl 1 rfl) ?_
  refine lv_ishr hx hb dX5_layMinors_41 ?_
  refine lv_eqi (v := 3) (by decide) ?_
  refine lv_iconst (v := 1) hx hb dX5_layMinors_42 (by decide) ?_
  refine lv_iand hx hb dX5_layMinors_43 ?_
  refine lv_eqi (v := 1) (by decide) ?_
  refine lv_iadd hx hb dX5_layMinors_44 ?_
  refine lv_eqi (v := 3) (by decide) ?_
  refine lv_istore_n (lv' := [(2, .int 3), (3, .int 4), (0, .ref o), (1, .int 59)]) hx hb dX5_layMinors_45 rfl hl (by decide) rfl (fun ls hl => ?_)
  refine lv_iinc (v := 5) (lv' := [(3, .int 5), (2, .int 3), (0, .ref o), (1, .int 59)]) hx hb dX5_layMinors_46 hl (k := 1) rfl (by decide) (by decide) rfl (fun ls hl => ?_)
  refine lv_goto (tgt := 20) hx hb dX5_layMinors_49 (by decide) ?_
  refine lv_iload_n hx hb dX5_layMinors_20 rfl (lv_at hl 0 rfl) ?_
  refine lv_bipush (v := 6) hx hb dX5_layMinors_21 (by decide) ?_
  refine lv_icmp_ge (tgt := 52) hx hb dX5_layMinors_23 (by decide) (fun h => absurd h (by decide)) (fun _ => ?_)
  refine lv_iload_n hx hb dX5_layMinors_26 rfl (lv_at hl 1 rfl) ?_
  refine lv_ldc hx hb hown k_3 dX5_layMinors_27 ?_
  refine lv_icmp_ne (tgt := 36) hx hb dX5_layMinors_29 (by decide) (fun _ => ?_) (fun h => absurd h (by decide))
  refine lv_iload_n hx hb dX5_layMinors_36 rfl (lv_at hl 1 rfl) ?_
  refine lv_istore_n (lv' := [(2, .int 3), (3, .int 5), (0, .ref o), (1, .int 59)]) hx hb dX5_layMinors_37 rfl hl (by decide) rfl (fun ls hl => ?_)
  refine lv_iload_n hx hb dX5_layMinors_38 rfl (lv_at hl 0 rfl) ?_
  refine lv_iload_n hx hb dX5_layMinors_39 rfl (lv_at hl 3 rfl) ?_
  refine lv_iload_n hx hb dX5_layMinors_40 rfl (lv_at hl 1 rfl) ?_
  refine lv_ishr hx hb dX5_layMinors_41 ?_
  refine lv_eqi (v := 1) (by decide) ?_
  refine lv_iconst (v := 1) hx hb dX5_layMinors_42 (by decide) ?_
  refine lv_iand hx hb dX5_layMinors_43 ?_
  refine lv_eqi (v := 1) (by decide) ?_
  refine lv_iadd hx hb dX5_layMinors_44 ?_
  refine lv_eqi (v := 4) (by decide) ?_
  refine lv_istore_n (lv' := [(2, .int 4), (3, .int 5), (0, .ref o), (1, .int 59)]) hx hb dX5_layMinors_45 rfl hl (by decide) rfl (fun ls hl => ?_)
  refine lv_iinc (v := 6) (lv' := [(3, .int 6), (2, .int 4), (0, .ref o), (1, .int 59)]) hx hb dX5_layMinors_46 hl (k := 1) rfl (by decide) (by decide) rfl (fun ls hl => ?_)
  refine lv_goto (tgt := 20) hx hb dX5_layMinors_49 (by decide) ?_
  refine lv_iload_n hx hb dX5_layMinors_20 rfl (lv_at hl 0 rfl) ?_
  refine lv_bipush (v := 6) hx hb dX5_layMinors_21 (by decide) ?_
  refine lv_icmp_ge (tgt := 52) hx hb dX5_layMinors_23 (by decide) (fun _ => ?_) (fun h => absurd (by decide) h)
  refine lv_lconst (v := 0) hx hb dX5_layMinors_52 (by decide) ?_
  refine lv_lstore_n (lv' := [(3, .long 0), (2, .int 4), (0, .ref o), (1, .int 59)]) hx hb dX5_layMinors_53 rfl hl (by decide) rfl (fun ls hl => ?_)
  refine lv_iload_n hx hb dX5_layMinors_54 rfl (lv_at hl 1 rfl) ?_
  refine lv_istore (lv' := [(5, .int 4), (3, .long 0), (2, .int 4), (0, .ref o), (1, .int 59)]) hx hb dX5_layMinors_55 hl (by decide) rfl (fun ls hl => ?_)
  refine lv_iconst (v := 0) hx hb dX5_layMinors_57 (by decide) ?_
  refine lv_istore (lv' := [(6, .int 0), (5, .int 4), (3, .long 0), (2, .int 4), (0, .ref o), (1, .int 59)]) hx hb dX5_layMinors_58 hl (by decide) rfl (fun ls hl => ?_)
  refine lv_iload hx hb dX5_layMinors_60 (lv_at hl 0 rfl) ?_
  refine lv_bipush (v := 6) hx hb dX5_layMinors_62 (by decide) ?_
  refine lv_icmp_ge (tgt := 135) hx hb dX5_layMinors_64 (by decide) (fun h => absurd h (by decide)) (fun _ => ?_)
  refine lv_iload_n hx hb dX5_layMinors_67 rfl (lv_at hl 3 rfl) ?_
  refine lv_iconst (v := 5) hx hb dX5_layMinors_68 (by decide) ?_
  refine lv_icmp_ge (tgt := 135) hx hb dX5_layMinors_69 (by decide) (fun h => absurd h (by decide)) (fun _ => ?_)
  refine lv_iload_n hx hb dX5_layMinors_72 rfl (lv_at hl 5 rfl) ?_
  refine lv_iload hx hb dX5_layMinors_73 (lv_at hl 0 rfl) ?_
  refine lv_ishr hx hb dX5_layMinors_75 ?_
  refine lv_eqi (v := 59) (by decide) ?_
  refine lv_iconst (v := 1) hx hb dX5_layMinors_76 (by decide) ?_
  refine lv_iand hx hb dX5_layMinors_77 ?_
  refine lv_eqi (v := 1) (by decide) ?_
  refine lv_iconst (v := 1) hx hb dX5_layMinors_78 (by decide) ?_
  refine lv_icmp_ne (tgt := 129) hx hb dX5_layMinors_79 (by decide) (fun h => absurd (by decide) h) (fun _ => ?_)
  refine lv_aload_n hx hb dX5_layMinors_82 rfl (lv_at hl 4 rfl) ?_
  refine va_get (D := D) (ci := 5) (v := .ref mR) (C := RX5) (T := TX5) (N := 17) hx hb hts k_2 hown hK.1 hP 0 rfl rfl 5 (by decide) k_4 (fun _ h9 => h9) rfl dX5_layMinors_83 ?_
  refine lv_bipush (v := 6) hx hb dX5_layMinors_86 (by decide) ?_
  refine lv_iload_n hx hb dX5_layMinors_88 rfl (lv_at hl 3 rfl) ?_
  refine lv_imul hx hb dX5_layMinors_89 ?_
  refine lv_eqi (v := 24) (by decide) ?_
  refine lv_iload hx hb dX5_layMinors_90 (lv_at hl 0 rfl) ?_
  refine lv_iadd hx hb dX5_layMinors_92 ?_
  refine lv_eqi (v := 24) (by decide) ?_
  refine ld_l hx hb hK.1 hP 1 1 rfl rfl (ix_lit (by decide)) 24 (by decide) (v := fr 24) rfl dX5_layMinors_93 ?_
  refine lv_aload_n hx hb dX5_layMinors_94 rfl (lv_at hl 4 rfl) ?_
  refine va_get (D := D) (ci := 5) (v := .ref mD) (C := RX5) (T := TX5) (N := 17) hx hb hts k_2 hown hK.1 hP 0 rfl rfl 6 (by decide) k_1 (fun _ h9 => h9) rfl dX5_layMinors_95 ?_
  refine lv_iload_n hx hb dX5_layMinors_98 rfl (lv_at hl 5 rfl) ?_
  refine lv_iconst (v := 1) hx hb dX5_layMinors_99 (by decide) ?_
  refine lv_iload hx hb dX5_layMinors_100 (lv_at hl 0 rfl) ?_
  refine lv_ishl hx hb dX5_layMinors_102 ?_
  refine lv_eqi (v := 1) (by decide) ?_
  refine lv_isub hx hb dX5_layMinors_103 ?_
  refine lv_eqi (v := 58) (by decide) ?_
  refine ld_l hx hb hK.1 hP 2 1 rfl rfl (ix_lit (by decide)) 58 (by decide) (v := z5_mw58 fr) rfl dX5_layMinors_104 ?_
  refine lv_lmul hx hb dX5_layMinors_105 ?_
  refine lv_lstore (lv' := [(7, .long ((fr 24) * (z5_mw58 fr))), (6, .int 0), (5, .int 4), (3, .long 0), (2, .int 4), (0, .ref o), (1, .int 59)]) hx hb dX5_layMinors_106 hl (by decide) rfl (fun ls hl => ?_)
  refine lv_lload_n hx hb dX5_layMinors_108 rfl (lv_at hl 3 rfl) ?_
  refine lv_iload hx hb dX5_layMinors_109 (lv_at hl 2 rfl) ?_
  refine lv_iconst (v := 2) hx hb dX5_layMinors_111 (by decide) ?_
  refine lv_irem hx hb dX5_layMinors_112 (by decide) ?_
  refine lv_eqi (v := 0) (by decide) ?_
  refine lv_if_ne (tgt := 121) hx hb dX5_layMinors_113 (by decide) (fun h => absurd (by decide) h) (fun _ => ?_)
  refine lv_lload hx hb dX5_layMinors_116 (lv_at hl 0 rfl) ?_
  refine lv_goto (tgt := 124) hx hb dX5_layMinors_118 (by decide) ?_
  refine lv_ladd hx hb dX5_layMinors_124 ?_
  refine lv_lstore_n (lv' := [(3, .long (0 + ((fr 24) * (z5_mw58 fr)))), (7, .long ((fr 24) * (z5_mw58 fr))), (6, .int 0), (5, .int 4), (2, .int 4), (0, .ref o), (1, .int 59)]) hx hb dX5_layMinors_125 rfl hl (by decide) rfl (fun ls hl => ?_)
  refine lv_iinc (v := 3) (lv' := [(5, .int 3), (3, .long (0 + ((fr 24) * (z5_mw58 fr)))), (7, .long ((fr 24) * (z5_mw58 fr))), (6, .int 0), (2, .int 4), (0, .ref o), (1, .int 59)]) hx hb dX5_layMinors_126 hl (k := 3) rfl (by decide) (by decide) rfl (fun ls hl => ?_)
  refine lv_iinc (v := 1) (lv' := [(6, .int 1), (5, .int 3), (3, .long (0 + ((fr 24) * (z5_mw58 fr)))), (7, .long ((fr 24) * (z5_mw58 fr))), (2, .int 4), (0, .ref o), (1, .int 59)]) hx hb dX5_layMinors_129 hl (k := 3) rfl (by decide) (by decide) rfl (fun ls hl => ?_)
  refine lv_goto (tgt := 60) hx hb dX5_layMinors_132 (by decide) ?_
  refine lv_iload hx hb dX5_layMinors_60 (lv_at hl 0 rfl) ?_
  refine lv_bipush (v := 6) hx hb dX5_layMinors_62 (by decide) ?_
  refine lv_icmp_ge (tgt := 135) hx hb dX5_layMinors_64 (by decide) (fun h => absurd h (by decide)) (fun _ => ?_)
  refine lv_iload_n hx hb dX5_layMinors_67 rfl (lv_at hl 4 rfl) ?_
  refine lv_iconst (v := 5) hx hb dX5_layMinors_68 (by decide) ?_
  refine lv_icmp_ge (tgt := 135) hx hb dX5_layMinors_69 (by decide) (fun h => absurd h (by decide)) (fun _ => ?_)
  refine lv_iload_n hx hb dX5_layMinors_72 rfl (lv_at hl 6 rfl) ?_
  refine lv_iload hx hb dX5_layMinors_73 (lv_at hl 0 rfl) ?_
  refine lv_ishr hx hb dX5_layMinors_75 ?_
  refine lv_eqi (v := 29) (by decide) ?_
  refine lv_iconst (v := 1) hx hb dX5_layMinors_76 (by decide) ?_
  refine lv_iand hx hb dX5_layMinors_77 ?_
  refine lv_eqi (v := 1) (by decide) ?_
  refine lv_iconst (v := 1) hx hb dX5_layMinors_78 (by decide) ?_
  refine lv_icmp_ne (tgt := 129) hx hb dX5_layMinors_79 (by decide) (fun h => absurd (by decide) h) (fun _ => ?_)
  refine lv_aload_n hx hb dX5_layMinors_82 rfl (lv_at hl 5 rfl) ?_
  refine va_get (D := D) (ci := 5) (v := .ref mR) (C := RX5) (T := TX5) (N := 17) hx hb hts k_2 hown hK.1 hP 0 rfl rfl 5 (by decide) k_4 (fun _ h9 => h9) rfl dX5_layMinors_83 ?_
  refine lv_bipush (v := 6) hx hb dX5_layMinors_86 (by decide) ?_
  refine lv_iload_n hx hb dX5_layMinors_88 rfl (lv_at hl 4 rfl) ?_
  refine lv_imul hx hb dX5_layMinors_89 ?_
  refine lv_eqi (v := 24) (by decide) ?_
  refine lv_iload hx hb dX5_layMinors_90 (lv_at hl 0 rfl) ?_
  refine lv_iadd hx hb dX5_layMinors_92 ?_
  refine lv_eqi (v := 25) (by decide) ?_
  refine ld_l hx hb hK.1 hP 1 1 rfl rfl (ix_lit (by decide)) 25 (by decide) (v := fr 25) rfl dX5_layMinors_93 ?_
  refine lv_aload_n hx hb dX5_layMinors_94 rfl (lv_at hl 5 rfl) ?_
  refine va_get (D := D) (ci := 5) (v := .ref mD) (C := RX5) (T := TX5) (N := 17) hx hb hts k_2 hown hK.1 hP 0 rfl rfl 6 (by decide) k_1 (fun _ h9 => h9) rfl dX5_layMinors_95 ?_
  refine lv_iload_n hx hb dX5_layMinors_98 rfl (lv_at hl 6 rfl) ?_
  refine lv_iconst (v := 1) hx hb dX5_layMinors_99 (by decide) ?_
  refine lv_iload hx hb dX5_layMinors_100 (lv_at hl 0 rfl) ?_
  refine lv_ishl hx hb dX5_layMinors_102 ?_
  refine lv_eqi (v := 2) (by decide) ?_
  refine lv_isub hx hb dX5_layMinors_103 ?_
  refine lv_eqi (v := 57) (by decide) ?_
  refine ld_l hx hb hK.1 hP 2 1 rfl rfl (ix_lit (by decide)) 57 (by decide) (v := z5_mw57 fr) rfl dX5_layMinors_104 ?_
  refine lv_lmul hx hb dX5_layMinors_105 ?_
  refine lv_lstore (lv' := [(7, .long ((fr 25) * (z5_mw57 fr))), (6, .int 1), (5, .int 3), (3, .long (0 + ((fr 24) * (z5_mw58 fr)))), (2, .int 4), (0, .ref o), (1, .int 59)]) hx hb dX5_layMinors_106 hl (by decide) rfl (fun ls hl => ?_)
  refine lv_lload_n hx hb dX5_layMinors_108 rfl (lv_at hl 3 rfl) ?_
  refine lv_iload hx hb dX5_layMinors_109 (lv_at hl 2 rfl) ?_
  refine lv_iconst (v := 2) hx hb dX5_layMinors_111 (by decide) ?_
  refine lv_irem hx hb dX5_layMinors_112 (by decide) ?_
  refine lv_eqi (v := 1) (by decide) ?_
  refine lv_if_ne (tgt := 121) hx hb dX5_layMinors_113 (by decide) (fun _ => ?_) (fun h => absurd h (by decide))
  refine lv_lload hx hb dX5_layMinors_121 (lv_at hl 0 rfl) ?_
  refine lv_lneg hx hb dX5_layMinors_123 ?_
  refine lv_ladd hx hb dX5_layMinors_124 ?_
  refine lv_lstore_n (lv' := [(3, .long ((0 + ((fr 24) * (z5_mw58 fr))) + (-((fr 25) * (z5_mw57 fr))))), (7, .long ((fr 25) * (z5_mw57 fr))), (6, .int 1), (5, .int 3), (2, .int 4), (0, .ref o), (1, .int 59)]) hx hb dX5_layMinors_125 rfl hl (by decide) rfl (fun ls hl => ?_)
  refine lv_iinc (v := 2) (lv' := [(5, .int 2), (3, .long ((0 + ((fr 24) * (z5_mw58 fr))) + (-((fr 25) * (z5_mw57 fr))))), (7, .long ((fr 25) * (z5_mw57 fr))), (6, .int 1), (2, .int 4), (0, .ref o), (1, .int 59)]) hx hb dX5_layMinors_126 hl (k := 3) rfl (by decide) (by decide) rfl (fun ls hl => ?_)
  refine lv_iinc (v := 2) (lv' := [(6, .int 2), (5, .int 2), (3, .long ((0 + ((fr 24) * (z5_mw58 fr))) + (-((fr 25) * (z5_mw57 fr))))), (7, .long ((fr 25) * (z5_mw57 fr))), (2, .int 4), (0, .ref o), (1, .int 59)]) hx hb dX5_layMinors_129 hl (k := 3) rfl (by decide) (by decide) rfl (fun ls hl => ?_)
  refine lv_goto (tgt := 60) hx hb dX5_layMinors_132 (by decide) ?_
  refine lv_iload hx hb dX5_layMinors_60 (lv_at hl 0 rfl) ?_
  refine lv_bipush (v := 6) hx hb dX5_layMinors_62 (by decide) ?_
  refine lv_icmp_ge (tgt := 135) hx hb dX5_layMinors_64 (by decide) (fun h => absurd h (by decide)) (fun _ => ?_)
  refine lv_iload_n hx hb dX5_layMinors_67 rfl (lv_at hl 4 rfl) ?_
  refine lv_iconst (v := 5) hx hb dX5_layMinors_68 (by decide) ?_
  refine lv_icmp_ge (tgt := 135) hx hb dX5_layMinors_69 (by decide) (fun h => absurd h (by decide)) (fun _ => ?_)
  refine lv_iload_n hx hb dX5_layMinors_72 rfl (lv_at hl 6 rfl) ?_
  refine lv_iload hx hb dX5_layMinors_73 (lv_at hl 0 rfl) ?_
  refine lv_ishr hx hb dX5_layMinors_75 ?_
  refine lv_eqi (v := 14) (by decide) ?_
  refine lv_iconst (v := 1) hx hb dX5_layMinors_76 (by decide) ?_
  refine lv_iand hx hb dX5_layMinors_77 ?_
  refine lv_eqi (v := 0) (by decide) ?_
  refine lv_iconst (v := 1) hx hb dX5_layMinors_78 (by decide) ?_
  refine lv_icmp_ne (tgt := 129) hx hb dX5_layMinors_79 (by decide) (fun _ => ?_) (fun h => absurd h (by decide))
  refine lv_iinc (v := 3) (lv' := [(6, .int 3), (5, .int 2), (3, .long ((0 + ((fr 24) * (z5_mw58 fr))) + (-((fr 25) * (z5_mw57 fr))))), (7, .long ((fr 25) * (z5_mw57 fr))), (2, .int 4), (0, .ref o), (1, .int 59)]) hx hb dX5_layMinors_129 hl (k := 0) rfl (by decide) (by decide) rfl (fun ls hl => ?_)
  refine lv_goto (tgt := 60) hx hb dX5_layMinors_132 (by decide) ?_
  refine lv_iload hx hb dX5_layMinors_60 (lv_at hl 0 rfl) ?_
  refine lv_bipush (v := 6) hx hb dX5_layMinors_62 (by decide) ?_
  refine lv_icmp_ge (tgt := 135) hx hb dX5_layMinors_64 (by decide) (fun h => absurd h (by decide)) (fun _ => ?_)
  refine lv_iload_n hx hb dX5_layMinors_67 rfl (lv_at hl 4 rfl) ?_
  refine lv_iconst (v := 5) hx hb dX5_layMinors_68 (by decide) ?_
  refine lv_icmp_ge (tgt := 135) hx hb dX5_layMinors_69 (by decide) (fun h => absurd h (by decide)) (fun _ => ?_)
  refine lv_iload_n hx hb dX5_layMinors_72 rfl (lv_at hl 6 rfl) ?_
  refine lv_iload hx hb dX5_layMinors_73 (lv_at hl 0 rfl) ?_
  refine lv_ishr hx hb dX5_layMinors_75 ?_
  refine lv_eqi (v := 7) (by decide) ?_
  refine lv_iconst (v := 1) hx hb dX5_layMinors_76 (by decide) ?_
  refine lv_iand hx hb dX5_layMinors_77 ?_
  refine lv_eqi (v := 1) (by decide) ?_
  refine lv_iconst (v := 1) hx hb dX5_layMinors_78 (by decide) ?_
  refine lv_icmp_ne (tgt := 129) hx hb dX5_layMinors_79 (by decide) (fun h => absurd (by decide) h) (fun _ => ?_)
  refine lv_aload_n hx hb dX5_layMinors_82 rfl (lv_at hl 5 rfl) ?_
  refine va_get (D := D) (ci := 5) (v := .ref mR) (C := RX5) (T := TX5) (N := 17) hx hb hts k_2 hown hK.1 hP 0 rfl rfl 5 (by decide) k_4 (fun _ h9 => h9) rfl dX5_layMinors_83 ?_
  refine lv_bipush (v := 6) hx hb dX5_layMinors_86 (by decide) ?_
  refine lv_iload_n hx hb dX5_layMinors_88 rfl (lv_at hl 4 rfl) ?_
  refine lv_imul hx hb dX5_layMinors_89 ?_
  refine lv_eqi (v := 24) (by decide) ?_
  refine lv_iload hx hb dX5_layMinors_90 (lv_at hl 0 rfl) ?_
  refine lv_iadd hx hb dX5_layMinors_92 ?_
  refine lv_eqi (v := 27) (by decide) ?_
  refine ld_l hx hb hK.1 hP 1 1 rfl rfl (ix_lit (by decide)) 27 (by decide) (v := fr 27) rfl dX5_layMinors_93 ?_
  refine lv_aload_n hx hb dX5_layMinors_94 rfl (lv_at hl 5 rfl) ?_
  refine va_get (D := D) (ci := 5) (v := .ref mD) (C := RX5) (T := TX5) (N := 17) hx hb hts k_2 hown hK.1 hP 0 rfl rfl 6 (by decide) k_1 (fun _ h9 => h9) rfl dX5_layMinors_95 ?_
  refine lv_iload_n hx hb dX5_layMinors_98 rfl (lv_at hl 6 rfl) ?_
  refine lv_iconst (v := 1) hx hb dX5_layMinors_99 (by decide) ?_
  refine lv_iload hx hb dX5_layMinors_100 (lv_at hl 0 rfl) ?_
  refine lv_ishl hx hb dX5_layMinors_102 ?_
  refine lv_eqi (v := 8) (by decide) ?_
  refine lv_isub hx hb dX5_layMinors_103 ?_
  refine lv_eqi (v := 51) (by decide) ?_
  refine ld_l hx hb hK.1 hP 2 1 rfl rfl (ix_lit (by decide)) 51 (by decide) (v := z5_mw51 fr) rfl dX5_layMinors_104 ?_
  refine lv_lmul hx hb dX5_layMinors_105 ?_
  refine lv_lstore (lv' := [(7, .long ((fr 27) * (z5_mw51 fr))), (6, .int 3), (5, .int 2), (3, .long ((0 + ((fr 24) * (z5_mw58 fr))) + (-((fr 25) * (z5_mw57 fr))))), (2, .int 4), (0, .ref o), (1, .int 59)]) hx hb dX5_layMinors_106 hl (by decide) rfl (fun ls hl => ?_)
  refine lv_lload_n hx hb dX5_layMinors_108 rfl (lv_at hl 3 rfl) ?_
  refine lv_iload hx hb dX5_layMinors_109 (lv_at hl 2 rfl) ?_
  refine lv_iconst (v := 2) hx hb dX5_layMinors_111 (by decide) ?_
  refine lv_irem hx hb dX5_layMinors_112 (by decide) ?_
  refine lv_eqi (v := 0) (by decide) ?_
  refine lv_if_ne (tgt := 121) hx hb dX5_layMinors_113 (by decide) (fun h => absurd (by decide) h) (fun _ => ?_)
  refine lv_lload hx hb dX5_layMinors_116 (lv_at hl 0 rfl) ?_
  refine lv_goto (tgt := 124) hx hb dX5_layMinors_118 (by decide) ?_
  refine lv_ladd hx hb dX5_layMinors_124 ?_
  refine lv_lstore_n (lv' := [(3, .long (((0 + ((fr 24) * (z5_mw58 fr))) + (-((fr 25) * (z5_mw57 fr)))) + ((fr 27) * (z5_mw51 fr)))), (7, .long ((fr 27) * (z5_mw51 fr))), (6, .int 3), (5, .int 2), (2, .int 4), (0, .ref o), (1, .int 59)]) hx hb dX5_layMinors_125 rfl hl (by decide) rfl (fun ls hl => ?_)
  refine lv_iinc (v := 1) (lv' := [(5, .int 1), (3, .long (((0 + ((fr 24) * (z5_mw58 fr))) + (-((fr 25) * (z5_mw57 fr)))) + ((fr 27) * (z5_mw51 fr)))), (7, .long ((fr 27) * (z5_mw51 fr))), (6, .int 3), (2, .int 4), (0, .ref o), (1, .int 59)]) hx hb dX5_layMinors_126 hl (k := 3) rfl (by decide) (by decide) rfl (fun ls hl => ?_)
  refine lv_iinc (v := 4) (lv' := [(6, .int 4), (5, .int 1), (3, .long (((0 + ((fr 24) * (z5_mw58 fr))) + (-((fr 25) * (z5_mw57 fr)))) + ((fr 27) * (z5_mw51 fr)))), (7, .long ((fr 27) * (z5_mw51 fr))), (2, .int 4), (0, .ref o), (1, .int 59)]) hx hb dX5_layMinors_129 hl (k := 3) rfl (by decide) (by decide) rfl (fun ls hl => ?_)
  refine lv_goto (tgt := 60) hx hb dX5_layMinors_132 (by decide) ?_
  refine lv_iload hx hb dX5_layMinors_60 (lv_at hl 0 rfl) ?_
  refine lv_bipush (v := 6) hx hb dX5_layMinors_62 (by decide) ?_
  refine lv_icmp_ge (tgt := 135) hx hb dX5_layMinors_64 (by decide) (fun h => absurd h (by decide)) (fun _ => ?_)
  refine lv_iload_n hx hb dX5_layMinors_67 rfl (lv_at hl 4 rfl) ?_
  refine lv_iconst (v := 5) hx hb dX5_layMinors_68 (by decide) ?_
  refine lv_icmp_ge (tgt := 135) hx hb dX5_layMinors_69 (by decide) (fun h => absurd h (by decide)) (fun _ => ?_)
  refine lv_iload_n hx hb dX5_layMinors_72 rfl (lv_at hl 6 rfl) ?_
  refine lv_iload hx hb dX5_layMinors_73 (lv_at hl 0 rfl) ?_
  refine lv_ishr hx hb dX5_layMinors_75 ?_
  refine lv_eqi (v := 3) (by decide) ?_
  refine lv_iconst (v := 1) hx hb dX5_layMinors_76 (by decide) ?_
  refine lv_iand hx hb dX5_layMinors_77 ?_
  refine lv_eqi (v := 1) (by decide) ?_
  refine lv_iconst (v := 1) hx hb dX5_layMinors_78 (by decide) ?_
  refine lv_icmp_ne (tgt := 129) hx hb dX5_layMinors_79 (by decide) (fun h => absurd (by decide) h) (fun _ => ?_)
  refine lv_aload_n hx hb dX5_layMinors_82 rfl (lv_at hl 5 rfl) ?_
  refine va_get (D := D) (ci := 5) (v := .ref mR) (C := RX5) (T := TX5) (N := 17) hx hb hts k_2 hown hK.1 hP 0 rfl rfl 5 (by decide) k_4 (fun _ h9 => h9) rfl dX5_layMinors_83 ?_
  refine lv_bipush (v := 6) hx hb dX5_layMinors_86 (by decide) ?_
  refine lv_iload_n hx hb dX5_layMinors_88 rfl (lv_at hl 4 rfl) ?_
  refine lv_imul hx hb dX5_layMinors_89 ?_
  refine lv_eqi (v := 24) (by decide) ?_
  refine lv_iload hx hb dX5_layMinors_90 (lv_at hl 0 rfl) ?_
  refine lv_iadd hx hb dX5_layMinors_92 ?_
  refine lv_eqi (v := 28) (by decide) ?_
  refine ld_l hx hb hK.1 hP 1 1 rfl rfl (ix_lit (by decide)) 28 (by decide) (v := fr 28) rfl dX5_layMinors_93 ?_
  refine lv_aload_n hx hb dX5_layMinors_94 rfl (lv_at hl 5 rfl) ?_
  refine va_get (D := D) (ci := 5) (v := .ref mD) (C := RX5) (T := TX5) (N := 17) hx hb hts k_2 hown hK.1 hP 0 rfl rfl 6 (by decide) k_1 (fun _ h9 => h9) rfl dX5_layMinors_95 ?_
  refine lv_iload_n hx hb dX5_layMinors_98 rfl (lv_at hl 6 rfl) ?_
  refine lv_iconst (v := 1) hx hb dX5_layMinors_99 (by decide) ?_
  refine lv_iload hx hb dX5_layMinors_100 (lv_at hl 0 rfl) ?_
  refine lv_ishl hx hb dX5_layMinors_102 ?_
  refine lv_eqi (v := 16) (by decide) ?_
  refine lv_isub hx hb dX5_layMinors_103 ?_
  refine lv_eqi (v := 43) (by decide) ?_
  refine ld_l hx hb hK.1 hP 2 1 rfl rfl (ix_lit (by decide)) 43 (by decide) (v := z5_mw43 fr) rfl dX5_layMinors_104 ?_
  refine lv_lmul hx hb dX5_layMinors_105 ?_
  refine lv_lstore (lv' := [(7, .long ((fr 28) * (z5_mw43 fr))), (6, .int 4), (5, .int 1), (3, .long (((0 + ((fr 24) * (z5_mw58 fr))) + (-((fr 25) * (z5_mw57 fr)))) + ((fr 27) * (z5_mw51 fr)))), (2, .int 4), (0, .ref o), (1, .int 59)]) hx hb dX5_layMinors_106 hl (by decide) rfl (fun ls hl => ?_)
  refine lv_lload_n hx hb dX5_layMinors_108 rfl (lv_at hl 3 rfl) ?_
  refine lv_iload hx hb dX5_layMinors_109 (lv_at hl 2 rfl) ?_
  refine lv_iconst (v := 2) hx hb dX5_layMinors_111 (by decide) ?_
  refine lv_irem hx hb dX5_layMinors_112 (by decide) ?_
  refine lv_eqi (v := 1) (by decide) ?_
  refine lv_if_ne (tgt := 121) hx hb dX5_layMinors_113 (by decide) (fun _ => ?_) (fun h => absurd h (by decide))
  refine lv_lload hx hb dX5_layMinors_121 (lv_at hl 0 rfl) ?_
  refine lv_lneg hx hb dX5_layMinors_123 ?_
  refine lv_ladd hx hb dX5_layMinors_124 ?_
  refine lv_lstore_n (lv' := [(3, .long ((((0 + ((fr 24) * (z5_mw58 fr))) + (-((fr 25) * (z5_mw57 fr)))) + ((fr 27) * (z5_mw51 fr))) + (-((fr 28) * (z5_mw43 fr))))), (7, .long ((fr 28) * (z5_mw43 fr))), (6, .int 4), (5, .int 1), (2, .int 4), (0, .ref o), (1, .int 59)]) hx hb dX5_layMinors_125 rfl hl (by decide) rfl (fun ls hl => ?_)
  refine lv_iinc (v := 0) (lv' := [(5, .int 0), (3, .long ((((0 + ((fr 24) * (z5_mw58 fr))) + (-((fr 25) * (z5_mw57 fr)))) + ((fr 27) * (z5_mw51 fr))) + (-((fr 28) * (z5_mw43 fr))))), (7, .long ((fr 28) * (z5_mw43 fr))), (6, .int 4), (2, .int 4), (0, .ref o), (1, .int 59)]) hx hb dX5_layMinors_126 hl (k := 3) rfl (by decide) (by decide) rfl (fun ls hl => ?_)
  refine lv_iinc (v := 5) (lv' := [(6, .int 5), (5, .int 0), (3, .long ((((0 + ((fr 24) * (z5_mw58 fr))) + (-((fr 25) * (z5_mw57 fr)))) + ((fr 27) * (z5_mw51 fr))) + (-((fr 28) * (z5_mw43 fr))))), (7, .long ((fr 28) * (z5_mw43 fr))), (2, .int 4), (0, .ref o), (1, .int 59)]) hx hb dX5_layMinors_129 hl (k := 3) rfl (by decide) (by decide) rfl (fun ls hl => ?_)
  refine lv_goto (tgt := 60) hx hb dX5_layMinors_132 (by decide) ?_
  refine lv_iload hx hb dX5_layMinors_60 (lv_at hl 0 rfl) ?_
  refine lv_bipush (v := 6) hx hb dX5_layMinors_62 (by decide) ?_
  refine lv_icmp_ge (tgt := 135) hx hb dX5_layMinors_64 (by decide) (fun h => absurd h (by decide)) (fun _ => ?_)
  refine lv_iload_n hx hb dX5_layMinors_67 rfl (lv_at hl 4 rfl) ?_
  refine lv_iconst (v := 5) hx hb dX5_layMinors_68 (by decide) ?_
  refine lv_icmp_ge (tgt := 135) hx hb dX5_layMinors_69 (by decide) (fun h => absurd h (by decide)) (fun _ => ?_)
  refine lv_iload_n hx hb dX5_layMinors_72 rfl (lv_at hl 6 rfl) ?_
  refine lv_iload hx hb dX5_layMinors_73 (lv_at hl 0 rfl) ?_
  refine lv_ishr hx hb dX5_layMinors_75 ?_
  refine lv_eqi (v := 1) (by decide) ?_
  refine lv_iconst (v := 1) hx hb dX5_layMinors_76 (by decide) ?_
  refine lv_iand hx hb dX5_layMinors_77 ?_
  refine lv_eqi (v := 1) (by decide) ?_
  refine lv_iconst (v := 1) hx hb dX5_layMinors_78 (by decide) ?_
  refine lv_icmp_ne (tgt := 129) hx hb dX5_layMinors_79 (by decide) (fun h => absurd (by decide) h) (fun _ => ?_)
  refine lv_aload_n hx hb dX5_layMinors_82 rfl (lv_at hl 5 rfl) ?_
  refine va_get (D := D) (ci := 5) (v := .ref mR) (C := RX5) (T := TX5) (N := 17) hx hb hts k_2 hown hK.1 hP 0 rfl rfl 5 (by decide) k_4 (fun _ h9 => h9) rfl dX5_layMinors_83 ?_
  refine lv_bipush (v := 6) hx hb dX5_layMinors_86 (by decide) ?_
  refine lv_iload_n hx hb dX5_layMinors_88 rfl (lv_at hl 4 rfl) ?_
  refine lv_imul hx hb dX5_layMinors_89 ?_
  refine lv_eqi (v := 24) (by decide) ?_
  refine lv_iload hx hb dX5_layMinors_90 (lv_at hl 0 rfl) ?_
  refine lv_iadd hx hb dX5_layMinors_92 ?_
  refine lv_eqi (v := 29) (by decide) ?_
  refine ld_l hx hb hK.1 hP 1 1 rfl rfl (ix_lit (by decide)) 29 (by decide) (v := fr 29) rfl dX5_layMinors_93 ?_
  refine lv_aload_n hx hb dX5_layMinors_94 rfl (lv_at hl 5 rfl) ?_
  refine va_get (D := D) (ci := 5) (v := .ref mD) (C := RX5) (T := TX5) (N := 17) hx hb hts k_2 hown hK.1 hP 0 rfl rfl 6 (by decide) k_1 (fun _ h9 => h9) rfl dX5_layMinors_95 ?_
  refine lv_iload_n hx hb dX5_layMinors_98 rfl (lv_at hl 6 rfl) ?_
  refine lv_iconst (v := 1) hx hb dX5_layMinors_99 (by decide) ?_
  refine lv_iload hx hb dX5_layMinors_100 (lv_at hl 0 rfl) ?_
  refine lv_ishl hx hb dX5_layMinors_102 ?_
  refine lv_eqi (v := 32) (by decide) ?_
  refine lv_isub hx hb dX5_layMinors_103 ?_
  refine lv_eqi (v := 27) (by decide) ?_
  refine ld_l hx hb hK.1 hP 2 1 rfl rfl (ix_lit (by decide)) 27 (by decide) (v := z5_mw27 fr) rfl dX5_layMinors_104 ?_
  refine lv_lmul hx hb dX5_layMinors_105 ?_
  refine lv_lstore (lv' := [(7, .long ((fr 29) * (z5_mw27 fr))), (6, .int 5), (5, .int 0), (3, .long ((((0 + ((fr 24) * (z5_mw58 fr))) + (-((fr 25) * (z5_mw57 fr)))) + ((fr 27) * (z5_mw51 fr))) + (-((fr 28) * (z5_mw43 fr))))), (2, .int 4), (0, .ref o), (1, .int 59)]) hx hb dX5_layMinors_106 hl (by decide) rfl (fun ls hl => ?_)
  refine lv_lload_n hx hb dX5_layMinors_108 rfl (lv_at hl 3 rfl) ?_
  refine lv_iload hx hb dX5_layMinors_109 (lv_at hl 2 rfl) ?_
  refine lv_iconst (v := 2) hx hb dX5_layMinors_111 (by decide) ?_
  refine lv_irem hx hb dX5_layMinors_112 (by decide) ?_
  refine lv_eqi (v := 0) (by decide) ?_
  refine lv_if_ne (tgt := 121) hx hb dX5_layMinors_113 (by decide) (fun h => absurd (by decide) h) (fun _ => ?_)
  refine lv_lload hx hb dX5_layMinors_116 (lv_at hl 0 rfl) ?_
  refine lv_goto (tgt := 124) hx hb dX5_layMinors_118 (by decide) ?_
  refine lv_ladd hx hb dX5_layMinors_124 ?_
  refine lv_lstore_n (lv' := [(3, .long (((((0 + ((fr 24) * (z5_mw58 fr))) + (-((fr 25) * (z5_mw57 fr)))) + ((fr 27) * (z5_mw51 fr))) + (-((fr 28) * (z5_mw43 fr)))) + ((fr 29) * (z5_mw27 fr)))), (7, .long ((fr 29) * (z5_mw27 fr))), (6, .int 5), (5, .int 0), (2, .int 4), (0, .ref o), (1, .int 59)]) hx hb dX5_layMinors_125 rfl hl (by decide) rfl (fun ls hl => ?_)
  refine lv_iinc (v := (-1)) (lv' := [(5, .int (-1)), (3, .long (((((0 + ((fr 24) * (z5_mw58 fr))) + (-((fr 25) * (z5_mw57 fr)))) + ((fr 27) * (z5_mw51 fr))) + (-((fr 28) * (z5_mw43 fr)))) + ((fr 29) * (z5_mw27 fr)))), (7, .long ((fr 29) * (z5_mw27 fr))), (6, .int 5), (2, .int 4), (0, .ref o), (1, .int 59)]) hx hb dX5_layMinors_126 hl (k := 3) rfl (by decide) (by decide) rfl (fun ls hl => ?_)
  refine lv_iinc (v := 6) (lv' := [(6, .int 6), (5, .int (-1)), (3, .long (((((0 + ((fr 24) * (z5_mw58 fr))) + (-((fr 25) * (z5_mw57 fr)))) + ((fr 27) * (z5_mw51 fr))) + (-((fr 28) * (z5_mw43 fr)))) + ((fr 29) * (z5_mw27 fr)))), (7, .long ((fr 29) * (z5_mw27 fr))), (2, .int 4), (0, .ref o), (1, .int 59)]) hx hb dX5_layMinors_129 hl (k := 3) rfl (by decide) (by decide) rfl (fun ls hl => ?_)
  refine lv_goto (tgt := 60) hx hb dX5_layMinors_132 (by decide) ?_
  refine lv_iload hx hb dX5_layMinors_60 (lv_at hl 0 rfl) ?_
  refine lv_bipush (v := 6) hx hb dX5_layMinors_62 (by decide) ?_
  refine lv_icmp_ge (tgt := 135) hx hb dX5_layMinors_64 (by decide) (fun _ => ?_) (fun h => absurd (by decide) h)
  refine lv_aload_n hx hb dX5_layMinors_135 rfl (lv_at hl 5 rfl) ?_
  refine va_get (D := D) (ci := 5) (v := .ref mD) (C := RX5) (T := TX5) (N := 17) hx hb hts k_2 hown hK.1 hP 0 rfl rfl 6 (by decide) k_1 (fun _ h9 => h9) rfl dX5_layMinors_136 ?_
  refine lv_iload_n hx hb dX5_layMinors_139 rfl (lv_at hl 6 rfl) ?_
  refine lv_lload_n hx hb dX5_layMinors_140 rfl (lv_at hl 2 rfl) ?_
  refine st_l hx hb hK.1 hP hD hS 2 1 rfl rfl (ix_lit (by decide)) 59 (by decide) dX5_layMinors_141 (fun H locs hP hD hS => ?_)
  have hP : va_P D vwCl [kM o mP mL mC mN mF mR mD mV mX mA mK cm mT pm mU mH mI, kJ mR cJ 30 fr, kJ mD cJ 64 (vp_updL (z5_mm59 fr fd) 59 (((((0 + ((fr 24) * (z5_mw58 fr))) + (-((fr 25) * (z5_mw57 fr)))) + ((fr 27) * (z5_mw51 fr))) + (-((fr 28) * (z5_mw43 fr)))) + ((fr 29) * (z5_mw27 fr))))] H := hP
  have hD : va_D A [kM o mP mL mC mN mF mR mD mV mX mA mK cm mT pm mU mH mI, kJ mR cJ 30 fr, kJ mD cJ 64 (vp_updL (z5_mm59 fr fd) 59 (((((0 + ((fr 24) * (z5_mw58 fr))) + (-((fr 25) * (z5_mw57 fr)))) + ((fr 27) * (z5_mw51 fr))) + (-((fr 28) * (z5_mw43 fr)))) + ((fr 29) * (z5_mw27 fr))))] := hD
  have hP : va_P D vwCl [kM o mP mL mC mN mF mR mD mV mX mA mK cm mT pm mU mH mI, kJ mR cJ 30 fr, kJ mD cJ 64 (z5_mm60 fr fd)] H := hP
  have hD : va_D A [kM o mP mL mC mN mF mR mD mV mX mA mK cm mT pm mU mH mI, kJ mR cJ 30 fr, kJ mD cJ 64 (z5_mm60 fr fd)] := hD
  refine lv_iinc (v := 60) (lv' := [(1, .int 60), (6, .int 6), (5, .int (-1)), (3, .long (((((0 + ((fr 24) * (z5_mw58 fr))) + (-((fr 25) * (z5_mw57 fr)))) + ((fr 27) * (z5_mw51 fr))) + (-((fr 28) * (z5_mw43 fr)))) + ((fr 29) * (z5_mw27 fr)))), (7, .long ((fr 29) * (z5_mw27 fr))), (2, .int 4), (0, .ref o)]) hx hb dX5_layMinors_142 hl (k := 6) rfl (by decide) (by decide) rfl (fun ls hl => ?_)
  refine lv_goto (tgt := 9) hx hb dX5_layMinors_145 (by decide) ?_
  exact sg_X5_layMinors_60 hx hb hr hml hown hts hlk hK hA hP hD hS ls (lv_sub hl [6, 0] rfl)
set_option maxHeartbeats 4000000 in
set_option maxRecDepth 100000 in
theorem sg_X5_layMinors_58 {l : Launch} {D : va_G} {cI cJ : ClassId} {pG : Program} {eG : Env} {sG : State} {mG : MethodId} {below : List Frame} {meth : Method} {cG : Code} {A : Nat → Prop} {H : Heap} {locs : List Loc} {o : Nat} {mP : Nat} {mL : Nat} {mC : Nat} {mN : Nat} {mF : Nat} {mR : Nat} {mD : Nat} {mV : Nat} {mX : Nat} {mA : Nat} {mK : Nat} {mT : Nat} {mU : Nat} {mH : Nat} {mI : Nat} {cm : Int32} {pm : Int32} {fr : Nat → Int64} {fd : Nat → Int64} (hx : pG.tables.exec = Jvm.exec) (hb : cG.code = cX5_layMinors) (hr : meth.sig.returnType = none) (hml : cG.maxLocals = 9) (hown : sG.vm.findClass RX5 = some mG.cls) (hts : ∀ x ∈ wsX5_layMinors, x.before ([.ref o] : List Value).toArray sG = true) (hlk : meth.locks = false) (hK : gd_K D cI cJ sG) (hA : ∀ q : Nat, sG.heap.size ≤ q → A q) (hP : va_P D vwCl [kM o mP mL mC mN mF mR mD mV mX mA mK cm mT pm mU mH mI, kJ mR cJ 30 fr, kJ mD cJ 64 (z5_mm58 fr fd)] H) (hD : va_D A [kM o mP mL mC mN mF mR mD mV mX mA mK cm mT pm mU mH mI, kJ mR cJ 30 fr, kJ mD cJ 64 (z5_mm58 fr fd)]) (hS : va_S A sG.heap H locs) (ls : Array Slot) (hl : lv_has ls 9 [(0, .ref o), (1, .int 58)]) : W pG l eG (headSpec wsX5_layMinors ({ frames := 0, cells := 0, slots := 0, locals := 0 })).room sG mG ([.ref o] : List Value).toArray below meth cG H locs 0 0 (MQ below ((qe_v (fun _ : Unit => True) (fun uu => [kM o mP mL mC mN mF mR mD mV mX mA mK cm mT pm mU mH mI, kJ mR cJ 30 fr, kJ mD cJ 64 (z5_layMinors_f2 fr fd)])) D A) ([.ref o] : List Value).toArray sG 0 0 A) (F0 mG 9 ls []) := by
  have k_1 := hts (.fieldLink RX5 29 "ConicRowsModel" "minors" "[J") (by decide +kernel)
  have k_2 : ∀ w ∈ wsX50, w ∈ wsX5_layMinors := by decide +kernel
  have k_3 := hts (.constant RX5 122 (-1000001)) (by decide +kernel)
  have k_4 := hts (.fieldLink RX5 26 "ConicRowsModel" "rows" "[J") (by decide +kernel)
  refine lv_iload_n hx hb dX5_layMinors_9 rfl (lv_at hl 1 rfl) ?_
  refine lv_bipush (v := 64) hx hb dX5_layMinors_10 (by decide) ?_
  refine lv_icmp_ge (tgt := 148) hx hb dX5_layMinors_12 (by decide) (fun h => absurd h (by decide)) (fun _ => ?_)
  refine lv_ldc hx hb hown k_3 dX5_layMinors_15 ?_
  refine lv_istore_n (lv' := [(2, .int (-1000001)), (0, .ref o), (1, .int 58)]) hx hb dX5_layMinors_17 rfl hl (by decide) rfl (fun ls hl => ?_)
  refine lv_iconst (v := 0) hx hb dX5_layMinors_18 (by decide) ?_
  refine lv_istore_n (lv' := [(3, .int 0), (2, .int (-1000001)), (0, .ref o), (1, .int 58)]) hx hb dX5_layMinors_19 rfl hl (by decide) rfl (fun ls hl => ?_)
  refine lv_iload_n hx hb dX5_layMinors_20 rfl (lv_at hl 0 rfl) ?_
  refine lv_bipush (v := 6) hx hb dX5_layMinors_21 (by decide) ?_
  refine lv_icmp_ge (tgt := 52) hx hb dX5_layMinors_23 (by decide) (fun h => absurd h (by decide)) (fun _ => ?_)
  refine lv_iload_n hx hb dX5_layMinors_26 rfl (lv_at hl 1 rfl) ?_
  refine lv_ldc hx hb hown k_3 dX5_layMinors_27 ?_
  refine lv_icmp_ne (tgt := 36) hx hb dX5_layMinors_29 (by decide) (fun h => absurd (by decide) h) (fun _ => ?_)
  refine lv_iconst (v := (-1)) hx hb dX5_layMinors_32 (by decide) ?_
  refine lv_goto (tgt := 37) hx hb dX5_layMinors_33 (by decide) ?_
  refine lv_istore_n (lv' := [(2, .int (-1)), (3, .int 0), (0, .ref o), (1, .int 58)]) hx hb dX5_layMinors_37 rfl hl (by decide) rfl (fun ls hl => ?_)
  refine lv_iload_n hx hb dX5_layMinors_38 rfl (lv_at hl 0 rfl) ?_
  refine lv_iload_n hx hb dX5_layMinors_39 rfl (lv_at hl 3 rfl) ?_
  refine lv_iload_n hx hb dX5_layMinors_40 rfl (lv_at hl 1 rfl) ?_
  refine lv_ishr hx hb dX5_layMinors_41 ?_
  refine lv_eqi (v := 58) (by decide) ?_
  refine lv_iconst (v := 1) hx hb dX5_layMinors_42 (by decide) ?_
  refine lv_iand hx hb dX5_layMinors_43 ?_
  refine lv_eqi (v := 0) (by decide) ?_
  refine lv_iadd hx hb dX5_layMinors_44 ?_
  refine lv_eqi (v := (-1)) (by decide) ?_
  refine lv_istore_n (lv' := [(2, .int (-1)), (3, .int 0), (0, .ref o), (1, .int 58)]) hx hb dX5_layMinors_45 rfl hl (by decide) rfl (fun ls hl => ?_)
  refine lv_iinc (v := 1) (lv' := [(3, .int 1), (2, .int (-1)), (0, .ref o), (1, .int 58)]) hx hb dX5_layMinors_46 hl (k := 1) rfl (by decide) (by decide) rfl (fun ls hl => ?_)
  refine lv_goto (tgt := 20) hx hb dX5_layMinors_49 (by decide) ?_
  refine lv_iload_n hx hb dX5_layMinors_20 rfl (lv_at hl 0 rfl) ?_
  refine lv_bipush (v := 6) hx hb dX5_layMinors_21 (by decide) ?_
  refine lv_icmp_ge (tgt := 52) hx hb dX5_layMinors_23 (by decide) (fun h => absurd h (by decide)) (fun _ => ?_)
  refine lv_iload_n hx hb dX5_layMinors_26 rfl (lv_at hl 1 rfl) ?_
  refine lv_ldc hx hb hown k_3 dX5_layMinors_27 ?_
  refine lv_icmp_ne (tgt := 36) hx hb dX5_layMinors_29 (by decide) (fun _ => ?_) (fun h => absurd h (by decide))
  refine lv_iload_n hx hb dX5_layMinors_36 rfl (lv_at hl 1 rfl) ?_
  refine lv_istore_n (lv' := [(2, .int (-1)), (3, .int 1), (0, .ref o), (1, .int 58)]) hx hb dX5_layMinors_37 rfl hl (by decide) rfl (fun ls hl => ?_)
  refine lv_iload_n hx hb dX5_layMinors_38 rfl (lv_at hl 0 rfl) ?_
  refine lv_iload_n hx hb dX5_layMinors_39 rfl (lv_at hl 3 rfl) ?_
  refine lv_iload_n hx hb dX5_layMinors_40 rfl (lv_at hl 1 rfl) ?_
  refine lv_ishr hx hb dX5_layMinors_41 ?_
  refine lv_eqi (v := 29) (by decide) ?_
  refine lv_iconst (v := 1) hx hb dX5_layMinors_42 (by decide) ?_
  refine lv_iand hx hb dX5_layMinors_43 ?_
  refine lv_eqi (v := 1) (by decide) ?_
  refine lv_iadd hx hb dX5_layMinors_44 ?_
  refine lv_eqi (v := 0) (by decide) ?_
  refine lv_istore_n (lv' := [(2, .int 0), (3, .int 1), (0, .ref o), (1, .int 58)]) hx hb dX5_layMinors_45 rfl hl (by decide) rfl (fun ls hl => ?_)
  refine lv_iinc (v := 2) (lv' := [(3, .int 2), (2, .int 0), (0, .ref o), (1, .int 58)]) hx hb dX5_layMinors_46 hl (k := 1) rfl (by decide) (by decide) rfl (fun ls hl => ?_)
  refine lv_goto (tgt := 20) hx hb dX5_layMinors_49 (by decide) ?_
  refine lv_iload_n hx hb dX5_layMinors_20 rfl (lv_at hl 0 rfl) ?_
  refine lv_bipush (v := 6) hx hb dX5_layMinors_21 (by decide) ?_
  refine lv_icmp_ge (tgt := 52) hx hb dX5_layMinors_23 (by decide) (fun h => absurd h (by decide)) (fun _ => ?_)
  refine lv_iload_n hx hb dX5_layMinors_26 rfl (lv_at hl 1 rfl) ?_
  refine lv_ldc hx hb hown k_3 dX5_layMinors_27 ?_
  refine lv_icmp_ne (tgt := 36) hx hb dX5_layMinors_29 (by decide) (fun _ => ?_) (fun h => absurd h (by decide))
  refine lv_iload_n hx hb dX5_layMinors_36 rfl (lv_at hl 1 rfl) ?_
  refine lv_istore_n (lv' := [(2, .int 0), (3, .int 2), (0, .ref o), (1, .int 58)]) hx hb dX5_layMinors_37 rfl hl (by decide) rfl (fun ls hl => ?_)
  refine lv_iload_n hx hb dX5_layMinors_38 rfl (lv_at hl 0 rfl) ?_
  refine lv_iload_n hx hb dX5_layMinors_39 rfl (lv_at hl 3 rfl) ?_
  refine lv_iload_n hx hb dX5_layMinors_40 rfl (lv_at hl 1 rfl) ?_
  refine lv_ishr hx hb dX5_layMinors_41 ?_
  refine lv_eqi (v := 14) (by decide) ?_
  refine lv_iconst (v := 1) hx hb dX5_layMinors_42 (by decide) ?_
  refine lv_iand hx hb dX5_layMinors_43 ?_
  refine lv_eqi (v := 0) (by decide) ?_
  refine lv_iadd hx hb dX5_layMinors_44 ?_
  refine lv_eqi (v := 0) (by decide) ?_
  refine lv_istore_n (lv' := [(2, .int 0), (3, .int 2), (0, .ref o), (1, .int 58)]) hx hb dX5_layMinors_45 rfl hl (by decide) rfl (fun ls hl => ?_)
  refine lv_iinc (v := 3) (lv' := [(3, .int 3), (2, .int 0), (0, .ref o), (1, .int 58)]) hx hb dX5_layMinors_46 hl (k := 1) rfl (by decide) (by decide) rfl (fun ls hl => ?_)
  refine lv_goto (tgt := 20) hx hb dX5_layMinors_49 (by decide) ?_
  refine lv_iload_n hx hb dX5_layMinors_20 rfl (lv_at hl 0 rfl) ?_
  refine lv_bipush (v := 6) hx hb dX5_layMinors_21 (by decide) ?_
  refine lv_icmp_ge (tgt := 52) hx hb dX5_layMinors_23 (by decide) (fun h => absurd h (by decide)) (fun _ => ?_)
  refine lv_iload_n hx hb dX5_layMinors_26 rfl (lv_at hl 1 rfl) ?_
  refine lv_ldc hx hb hown k_3 dX5_layMinors_27 ?_
  refine lv_icmp_ne (tgt := 36) hx hb dX5_layMinors_29 (by decide) (fun _ => ?_) (fun h => absurd h (by decide))
  refine lv_iload_n hx hb dX5_layMinors_36 rfl (lv_at hl 1 rfl) ?_
  refine lv_istore_n (lv' := [(2, .int 0), (3, .int 3), (0, .ref o), (1, .int 58)]) hx hb dX5_layMinors_37 rfl hl (by decide) rfl (fun ls hl => ?_)
  refine lv_iload_n hx hb dX5_layMinors_38 rfl (lv_at hl 0 rfl) ?_
  refine lv_iload_n hx hb dX5_layMinors_39 rfl (lv_at hl 3 rfl) ?_
  refine lv_iload_n hx hb dX5_layMinors_40 rfl (lv_at hl 1 rfl) ?_
  refine lv_ishr hx hb dX5_layMinors_41 ?_
  refine lv_eqi (v := 7) (by decide) ?_
  refine lv_iconst (v := 1) hx hb dX5_layMinors_42 (by decide) ?_
  refine lv_iand hx hb dX5_layMinors_43 ?_
  refine lv_eqi (v := 1) (by decide) ?_
  refine lv_iadd hx hb dX5_layMinors_44 ?_
  refine lv_eqi (v := 1) (by decide) ?_
  refine lv_istore_n (lv' := [(2, .int 1), (3, .int 3), (0, .ref o), (1, .int 58)]) hx hb dX5_layMinors_45 rfl hl (by decide) rfl (fun ls hl => ?_)
  refine lv_iinc (v := 4) (lv' := [(3, .int 4), (2, .int 1), (0, .ref o), (1, .int 58)]) hx hb dX5_layMinors_46 hl (k := 1) rfl (by decide) (by decide) rfl (fun ls hl => ?_)
  refine lv_goto (tgt := 20) hx hb dX5_layMinors_49 (by decide) ?_
  refine lv_iload_n hx hb dX5_layMinors_20 rfl (lv_at hl 0 rfl) ?_
  refine lv_bipush (v := 6) hx hb dX5_layMinors_21 (by decide) ?_
  refine lv_icmp_ge (tgt := 52) hx hb dX5_layMinors_23 (by decide) (fun h => absurd h (by decide)) (fun _ => ?_)
  refine lv_iload_n hx hb dX5_layMinors_26 rfl (lv_at hl 1 rfl) ?_
  refine lv_ldc hx hb hown k_3 dX5_layMinors_27 ?_
  refine lv_icmp_ne (tgt := 36) hx hb dX5_layMinors_29 (by decide) (fun _ => ?_) (fun h => absurd h (by decide))
  refine lv_iload_n hx hb dX5_layMinors_36 rfl (lv_at hl 1 rfl) ?_
  refine lv_istore_n (lv' := [(2, .int 1), (3, .int 4), (0, .ref o), (1, .int 58)]) hx hb dX5_layMinors_37 rfl hl (by decide) rfl (fun ls hl => ?_)
  refine lv_iload_n hx hb dX5_layMinors_38 rfl (lv_at hl 0 rfl) ?_
  refine lv_iload_n hx hb dX5_layMinors_39 rfl (lv_at hl 3 rfl) ?_
  refine lv_iload_n hx hb dX5_layMinors_40 rfl (lv_at hl 1 rfl) ?_
  refine lv_ishr hx hb dX5_layMinors_41 ?_
  refine lv_eqi (v := 3) (by decide) ?_
  refine lv_iconst (v := 1) hx hb dX5_layMinors_42 (by decide) ?_
  refine lv_iand hx hb dX5_layMinors_43 ?_
  refine lv_eqi (v := 1) (by decide) ?_
  refine lv_iadd hx hb dX5_layMinors_44 ?_
  refine lv_eqi (v := 2) (by decide) ?_
  refine lv_istore_n (lv' := [(2, .int 2), (3, .int 4), (0, .ref o), (1, .int 58)]) hx hb dX5_layMinors_45 rfl hl (by decide) rfl (fun ls hl => ?_)
  refine lv_iinc (v := 5) (lv' := [(3, .int 5), (2, .int 2), (0, .ref o), (1, .int 58)]) hx hb dX5_layMinors_46 hl (k := 1) rfl (by decide) (by decide) rfl (fun ls hl => ?_)
  refine lv_goto (tgt := 20) hx hb dX5_layMinors_49 (by decide) ?_
  refine lv_iload_n hx hb dX5_layMinors_20 rfl (lv_at hl 0 rfl) ?_
  refine lv_bipush (v := 6) hx hb dX5_layMinors_21 (by decide) ?_
  refine lv_icmp_ge (tgt := 52) hx hb dX5_layMinors_23 (by decide) (fun h => absurd h (by decide)) (fun _ => ?_)
  refine lv_iload_n hx hb dX5_layMinors_26 rfl (lv_at hl 1 rfl) ?_
  refine lv_ldc hx hb hown k_3 dX5_layMinors_27 ?_
  refine lv_icmp_ne (tgt := 36) hx hb dX5_layMinors_29 (by decide) (fun _ => ?_) (fun h => absurd h (by decide))
  refine lv_iload_n hx hb dX5_layMinors_36 rfl (lv_at hl 1 rfl) ?_
  refine lv_istore_n (lv' := [(2, .int 2), (3, .int 5), (0, .ref o), (1, .int 58)]) hx hb dX5_layMinors_37 rfl hl (by decide) rfl (fun ls hl => ?_)
  refine lv_iload_n hx hb dX5_layMinors_38 rfl (lv_at hl 0 rfl) ?_
  refine lv_iload_n hx hb dX5_layMinors_39 rfl (lv_at hl 3 rfl) ?_
  refine lv_iload_n hx hb dX5_layMinors_40 rfl (lv_at hl 1 rfl) ?_
  refine lv_ishr hx hb dX5_layMinors_41 ?_
  refine lv_eqi (v := 1) (by decide) ?_
  refine lv_iconst (v := 1) hx hb dX5_layMinors_42 (by decide) ?_
  refine lv_iand hx hb dX5_layMinors_43 ?_
  refine lv_eqi (v := 1) (by decide) ?_
  refine lv_iadd hx hb dX5_layMinors_44 ?_
  refine lv_eqi (v := 3) (by decide) ?_
  refine lv_istore_n (lv' := [(2, .int 3), (3, .int 5), (0, .ref o), (1, .int 58)]) hx hb dX5_layMinors_45 rfl hl (by decide) rfl (fun ls hl => ?_)
  refine lv_iinc (v := 6) (lv' := [(3, .int 6), (2, .int 3), (0, .ref o), (1, .int 58)]) hx hb dX5_layMinors_46 hl (k := 1) rfl (by decide) (by decide) rfl (fun ls hl => ?_)
  refine lv_goto (tgt := 20) hx hb dX5_layMinors_49 (by decide) ?_
  refine lv_iload_n hx hb dX5_layMinors_20 rfl (lv_at hl 0 rfl) ?_
  refine lv_bipush (v := 6) hx hb dX5_layMinors_21 (by decide) ?_
  refine lv_icmp_ge (tgt := 52) hx hb dX5_layMinors_23 (by decide) (fun _ => ?_) (fun h => absurd (by decide) h)
  refine lv_lconst (v := 0) hx hb dX5_layMinors_52 (by decide) ?_
  refine lv_lstore_n (lv' := [(3, .long 0), (2, .int 3), (0, .ref o), (1, .int 58)]) hx hb dX5_layMinors_53 rfl hl (by decide) rfl (fun ls hl => ?_)
  refine lv_iload_n hx hb dX5_layMinors_54 rfl (lv_at hl 1 rfl) ?_
  refine lv_istore (lv' := [(5, .int 3), (3, .long 0), (2, .int 3), (0, .ref o), (1, .int 58)]) hx hb dX5_layMinors_55 hl (by decide) rfl (fun ls hl => ?_)
  refine lv_iconst (v := 0) hx hb dX5_layMinors_57 (by decide) ?_
  refine lv_istore (lv' := [(6, .int 0), (5, .int 3), (3, .long 0), (2, .int 3), (0, .ref o), (1, .int 58)]) hx hb dX5_layMinors_58 hl (by decide) rfl (fun ls hl => ?_)
  refine lv_iload hx hb dX5_layMinors_60 (lv_at hl 0 rfl) ?_
  refine lv_bipush (v := 6) hx hb dX5_layMinors_62 (by decide) ?_
  refine lv_icmp_ge (tgt := 135) hx hb dX5_layMinors_64 (by decide) (fun h => absurd h (by decide)) (fun _ => ?_)
  refine lv_iload_n hx hb dX5_layMinors_67 rfl (lv_at hl 3 rfl) ?_
  refine lv_iconst (v := 5) hx hb dX5_layMinors_68 (by decide) ?_
  refine lv_icmp_ge (tgt := 135) hx hb dX5_layMinors_69 (by decide) (fun h => absurd h (by decide)) (fun _ => ?_)
  refine lv_iload_n hx hb dX5_layMinors_72 rfl (lv_at hl 5 rfl) ?_
  refine lv_iload hx hb dX5_layMinors_73 (lv_at hl 0 rfl) ?_
  refine lv_ishr hx hb dX5_layMinors_75 ?_
  refine lv_eqi (v := 58) (by decide) ?_
  refine lv_iconst (v := 1) hx hb dX5_layMinors_76 (by decide) ?_
  refine lv_iand hx hb dX5_layMinors_77 ?_
  refine lv_eqi (v := 0) (by decide) ?_
  refine lv_iconst (v := 1) hx hb dX5_layMinors_78 (by decide) ?_
  refine lv_icmp_ne (tgt := 129) hx hb dX5_layMinors_79 (by decide) (fun _ => ?_) (fun h => absurd h (by decide))
  refine lv_iinc (v := 1) (lv' := [(6, .int 1), (5, .int 3), (3, .long 0), (2, .int 3), (0, .ref o), (1, .int 58)]) hx hb dX5_layMinors_129 hl (k := 0) rfl (by decide) (by decide) rfl (fun ls hl => ?_)
  refine lv_goto (tgt := 60) hx hb dX5_layMinors_132 (by decide) ?_
  refine lv_iload hx hb dX5_layMinors_60 (lv_at hl 0 rfl) ?_
  refine lv_bipush (v := 6) hx hb dX5_layMinors_62 (by decide) ?_
  refine lv_icmp_ge (tgt := 135) hx hb dX5_layMinors_64 (by decide) (fun h => absurd h (by decide)) (fun _ => ?_)
  refine lv_iload_n hx hb dX5_layMinors_67 rfl (lv_at hl 3 rfl) ?_
  refine lv_iconst (v := 5) hx hb dX5_layMinors_68 (by decide) ?_
  refine lv_icmp_ge (tgt := 135) hx hb dX5_layMinors_69 (by decide) (fun h => absurd h (by decide)) (fun _ => ?_)
  refine lv_iload_n hx hb dX5_layMinors_72 rfl (lv_at hl 5 rfl) ?_
  refine lv_iload hx hb dX5_layMinors_73 (lv_at hl 0 rfl) ?_
  refine lv_ishr hx hb dX5_layMinors_75 ?_
  refine lv_eqi (v := 29) (by decide) ?_
  refine lv_iconst (v := 1) hx hb dX5_layMinors_76 (by decide) ?_
  refine lv_iand hx hb dX5_layMinors_77 ?_
  refine lv_eqi (v := 1) (by decide) ?_
  refine lv_iconst (v := 1) hx hb dX5_layMinors_78 (by decide) ?_
  refine lv_icmp_ne (tgt := 129) hx hb dX5_layMinors_79 (by decide) (fun h => absurd (by decide) h) (fun _ => ?_)
  refine lv_aload_n hx hb dX5_layMinors_82 rfl (lv_at hl 4 rfl) ?_
  refine va_get (D := D) (ci := 5) (v := .ref mR) (C := RX5) (T := TX5) (N := 17) hx hb hts k_2 hown hK.1 hP 0 rfl rfl 5 (by decide) k_4 (fun _ h9 => h9) rfl dX5_layMinors_83 ?_
  refine lv_bipush (v := 6) hx hb dX5_layMinors_86 (by decide) ?_
  refine lv_iload_n hx hb dX5_layMinors_88 rfl (lv_at hl 3 rfl) ?_
  refine lv_imul hx hb dX5_layMinors_89 ?_
  refine lv_eqi (v := 18) (by decide) ?_
  refine lv_iload hx hb dX5_layMinors_90 (lv_at hl 0 rfl) ?_
  refine lv_iadd hx hb dX5_layMinors_92 ?_
  refine lv_eqi (v := 19) (by decide) ?_
  refine ld_l hx hb hK.1 hP 1 1 rfl rfl (ix_lit (by decide)) 19 (by decide) (v := fr 19) rfl dX5_layMinors_93 ?_
  refine lv_aload_n hx hb dX5_layMinors_94 rfl (lv_at hl 4 rfl) ?_
  refine va_get (D := D) (ci := 5) (v := .ref mD) (C := RX5) (T := TX5) (N := 17) hx hb hts k_2 hown hK.1 hP 0 rfl rfl 6 (by decide) k_1 (fun _ h9 => h9) rfl dX5_layMinors_95 ?_
  refine lv_iload_n hx hb dX5_layMinors_98 rfl (lv_at hl 5 rfl) ?_
  refine lv_iconst (v := 1) hx hb dX5_layMinors_99 (by decide) ?_
  refine lv_iload hx hb dX5_layMinors_100 (lv_at hl 0 rfl) ?_
  refine lv_ishl hx hb dX5_layMinors_102 ?_
  refine lv_eqi (v := 2) (by decide) ?_
  refine lv_isub hx hb dX5_layMinors_103 ?_
  refine lv_eqi (v := 56) (by decide) ?_
  refine ld_l hx hb hK.1 hP 2 1 rfl rfl (ix_lit (by decide)) 56 (by decide) (v := z5_mw56 fr) rfl dX5_layMinors_104 ?_
  refine lv_lmul hx hb dX5_layMinors_105 ?_
  refine lv_lstore (lv' := [(7, .long ((fr 19) * (z5_mw56 fr))), (6, .int 1), (5, .int 3), (3, .long 0), (2, .int 3), (0, .ref o), (1, .int 58)]) hx hb dX5_layMinors_106 hl (by decide) rfl (fun ls hl => ?_)
  refine lv_lload_n hx hb dX5_layMinors_108 rfl (lv_at hl 3 rfl) ?_
  refine lv_iload hx hb dX5_layMinors_109 (lv_at hl 2 rfl) ?_
  refine lv_iconst (v := 2) hx hb dX5_layMinors_111 (by decide) ?_
  refine lv_irem hx hb dX5_layMinors_112 (by decide) ?_
  refine lv_eqi (v := 1) (by decide) ?_
  refine lv_if_ne (tgt := 121) hx hb dX5_layMinors_113 (by decide) (fun _ => ?_) (fun h => absurd h (by decide))
  refine lv_lload hx hb dX5_layMinors_121 (lv_at hl 0 rfl) ?_
  refine lv_lneg hx hb dX5_layMinors_123 ?_
  refine lv_ladd hx hb dX5_layMinors_124 ?_
  refine lv_lstore_n (lv' := [(3, .long (0 + (-((fr 19) * (z5_mw56 fr))))), (7, .long ((fr 19) * (z5_mw56 fr))), (6, .int 1), (5, .int 3), (2, .int 3), (0, .ref o), (1, .int 58)]) hx hb dX5_layMinors_125 rfl hl (by decide) rfl (fun ls hl => ?_)
  refine lv_iinc (v := 2) (lv' := [(5, .int 2), (3, .long (0 + (-((fr 19) * (z5_mw56 fr))))), (7, .long ((fr 19) * (z5_mw56 fr))), (6, .int 1), (2, .int 3), (0, .ref o), (1, .int 58)]) hx hb dX5_layMinors_126 hl (k := 3) rfl (by decide) (by decide) rfl (fun ls hl => ?_)
  refine lv_iinc (v := 2) (lv' := [(6, .int 2), (5, .int 2), (3, .long (0 + (-((fr 19) * (z5_mw56 fr))))), (7, .long ((fr 19) * (z5_mw56 fr))), (2, .int 3), (0, .ref o), (1, .int 58)]) hx hb dX5_layMinors_129 hl (k := 3) rfl (by decide) (by decide) rfl (fun ls hl => ?_)
  refine lv_goto (tgt := 60) hx hb dX5_layMinors_132 (by decide) ?_
  refine lv_iload hx hb dX5_layMinors_60 (lv_at hl 0 rfl) ?_
  refine lv_bipush (v := 6) hx hb dX5_layMinors_62 (by decide) ?_
  refine lv_icmp_ge (tgt := 135) hx hb dX5_layMinors_64 (by decide) (fun h => absurd h (by decide)) (fun _ => ?_)
  refine lv_iload_n hx hb dX5_layMinors_67 rfl (lv_at hl 4 rfl) ?_
  refine lv_iconst (v := 5) hx hb dX5_layMinors_68 (by decide) ?_
  refine lv_icmp_ge (tgt := 135) hx hb dX5_layMinors_69 (by decide) (fun h => absurd h (by decide)) (fun _ => ?_)
  refine lv_iload_n hx hb dX5_layMinors_72 rfl (lv_at hl 6 rfl) ?_
  refine lv_iload hx hb dX5_layMinors_73 (lv_at hl 0 rfl) ?_
  refine lv_ishr hx hb dX5_layMinors_75 ?_
  refine lv_eqi (v := 14) (by decide) ?_
  refine lv_iconst (v := 1) hx hb dX5_layMinors_76 (by decide) ?_
  refine lv_iand hx hb dX5_layMinors_77 ?_
  refine lv_eqi (v := 0) (by decide) ?_
  refine lv_iconst (v := 1) hx hb dX5_layMinors_78 (by decide) ?_
  refine lv_icmp_ne (tgt := 129) hx hb dX5_layMinors_79 (by decide) (fun _ => ?_) (fun h => absurd h (by decide))
  refine lv_iinc (v := 3) (lv' := [(6, .int 3), (5, .int 2), (3, .long (0 + (-((fr 19) * (z5_mw56 fr))))), (7, .long ((fr 19) * (z5_mw56 fr))), (2, .int 3), (0, .ref o), (1, .int 58)]) hx hb dX5_layMinors_129 hl (k := 0) rfl (by decide) (by decide) rfl (fun ls hl => ?_)
  refine lv_goto (tgt := 60) hx hb dX5_layMinors_132 (by decide) ?_
  refine lv_iload hx hb dX5_layMinors_60 (lv_at hl 0 rfl) ?_
  refine lv_bipush (v := 6) hx hb dX5_layMinors_62 (by decide) ?_
  refine lv_icmp_ge (tgt := 135) hx hb dX5_layMinors_64 (by decide) (fun h => absurd h (by decide)) (fun _ => ?_)
  refine lv_iload_n hx hb dX5_layMinors_67 rfl (lv_at hl 4 rfl) ?_
  refine lv_iconst (v := 5) hx hb dX5_layMinors_68 (by decide) ?_
  refine lv_icmp_ge (tgt := 135) hx hb dX5_layMinors_69 (by decide) (fun h => absurd h (by decide)) (fun _ => ?_)
  refine lv_iload_n hx hb dX5_layMinors_72 rfl (lv_at hl 6 rfl) ?_
  refine lv_iload hx hb dX5_layMinors_73 (lv_at hl 0 rfl) ?_
  refine lv_ishr hx hb dX5_layMinors_75 ?_
  refine lv_eqi (v := 7) (by decide) ?_
  refine lv_iconst (v := 1) hx hb dX5_layMinors_76 (by decide) ?_
  refine lv_iand hx hb dX5_layMinors_77 ?_
  refine lv_eqi (v := 1) (by decide) ?_
  refine lv_iconst (v := 1) hx hb dX5_layMinors_78 (by decide) ?_
  refine lv_icmp_ne (tgt := 129) hx hb dX5_layMinors_79 (by decide) (fun h => absurd (by decide) h) (fun _ => ?_)
  refine lv_aload_n hx hb dX5_layMinors_82 rfl (lv_at hl 5 rfl) ?_
  refine va_get (D := D) (ci := 5) (v := .ref mR) (C := RX5) (T := TX5) (N := 17) hx hb hts k_2 hown hK.1 hP 0 rfl rfl 5 (by decide) k_4 (fun _ h9 => h9) rfl dX5_layMinors_83 ?_
  refine lv_bipush (v := 6) hx hb dX5_layMinors_86 (by decide) ?_
  refine lv_iload_n hx hb dX5_layMinors_88 rfl (lv_at hl 4 rfl) ?_
  refine lv_imul hx hb dX5_layMinors_89 ?_
  refine lv_eqi (v := 18) (by decide) ?_
  refine lv_iload hx hb dX5_layMinors_90 (lv_at hl 0 rfl) ?_
  refine lv_iadd hx hb dX5_layMinors_92 ?_
  refine lv_eqi (v := 21) (by decide) ?_
  refine ld_l hx hb hK.1 hP 1 1 rfl rfl (ix_lit (by decide)) 21 (by decide) (v := fr 21) rfl dX5_layMinors_93 ?_
  refine lv_aload_n hx hb dX5_layMinors_94 rfl (lv_at hl 5 rfl) ?_
  refine va_get (D := D) (ci := 5) (v := .ref mD) (C := RX5) (T := TX5) (N := 17) hx hb hts k_2 hown hK.1 hP 0 rfl rfl 6 (by decide) k_1 (fun _ h9 => h9) rfl dX5_layMinors_95 ?_
  refine lv_iload_n hx hb dX5_layMinors_98 rfl (lv_at hl 6 rfl) ?_
  refine lv_iconst (v := 1) hx hb dX5_layMinors_99 (by decide) ?_
  refine lv_iload hx hb dX5_layMinors_100 (lv_at hl 0 rfl) ?_
  refine lv_ishl hx hb dX5_layMinors_102 ?_
  refine lv_eqi (v := 8) (by decide) ?_
  refine lv_isub hx hb dX5_layMinors_103 ?_
  refine lv_eqi (v := 50) (by decide) ?_
  refine ld_l hx hb hK.1 hP 2 1 rfl rfl (ix_lit (by decide)) 50 (by decide) (v := z5_mw50 fr) rfl dX5_layMinors_104 ?_
  refine lv_lmul hx hb dX5_layMinors_105 ?_
  refine lv_lstore (lv' := [(7, .long ((fr 21) * (z5_mw50 fr))), (6, .int 3), (5, .int 2), (3, .long (0 + (-((fr 19) * (z5_mw56 fr))))), (2, .int 3), (0, .ref o), (1, .int 58)]) hx hb dX5_layMinors_106 hl (by decide) rfl (fun ls hl => ?_)
  refine lv_lload_n hx hb dX5_layMinors_108 rfl (lv_at hl 3 rfl) ?_
  refine lv_iload hx hb dX5_layMinors_109 (lv_at hl 2 rfl) ?_
  refine lv_iconst (v := 2) hx hb dX5_layMinors_111 (by decide) ?_
  refine lv_irem hx hb dX5_layMinors_112 (by decide) ?_
  refine lv_eqi (v := 0) (by decide) ?_
  refine lv_if_ne (tgt := 121) hx hb dX5_layMinors_113 (by decide) (fun h => absurd (by decide) h) (fun _ => ?_)
  refine lv_lload hx hb dX5_layMinors_116 (lv_at hl 0 rfl) ?_
  refine lv_goto (tgt := 124) hx hb dX5_layMinors_118 (by decide) ?_
  refine lv_ladd hx hb dX5_layMinors_124 ?_
  refine lv_lstore_n (lv' := [(3, .long ((0 + (-((fr 19) * (z5_mw56 fr)))) + ((fr 21) * (z5_mw50 fr)))), (7, .long ((fr 21) * (z5_mw50 fr))), (6, .int 3), (5, .int 2), (2, .int 3), (0, .ref o), (1, .int 58)]) hx hb dX5_layMinors_125 rfl hl (by decide) rfl (fun ls hl => ?_)
  refine lv_iinc (v := 1) (lv' := [(5, .int 1), (3, .long ((0 + (-((fr 19) * (z5_mw56 fr)))) + ((fr 21) * (z5_mw50 fr)))), (7, .long ((fr 21) * (z5_mw50 fr))), (6, .int 3), (2, .int 3), (0, .ref o), (1, .int 58)]) hx hb dX5_layMinors_126 hl (k := 3) rfl (by decide) (by decide) rfl (fun ls hl => ?_)
  refine lv_iinc (v := 4) (lv' := [(6, .int 4), (5, .int 1), (3, .long ((0 + (-((fr 19) * (z5_mw56 fr)))) + ((fr 21) * (z5_mw50 fr)))), (7, .long ((fr 21) * (z5_mw50 fr))), (2, .int 3), (0, .ref o), (1, .int 58)]) hx hb dX5_layMinors_129 hl (k := 3) rfl (by decide) (by decide) rfl (fun ls hl => ?_)
  refine lv_goto (tgt := 60) hx hb dX5_layMinors_132 (by decide) ?_
  refine lv_iload hx hb dX5_layMinors_60 (lv_at hl 0 rfl) ?_
  refine lv_bipush (v := 6) hx hb dX5_layMinors_62 (by decide) ?_
  refine lv_icmp_ge (tgt := 135) hx hb dX5_layMinors_64 (by decide) (fun h => absurd h (by decide)) (fun _ => ?_)
  refine lv_iload_n hx hb dX5_layMinors_67 rfl (lv_at hl 4 rfl) ?_
  refine lv_iconst (v := 5) hx hb dX5_layMinors_68 (by decide) ?_
  refine lv_icmp_ge (tgt := 135) hx hb dX5_layMinors_69 (by decide) (fun h => absurd h (by decide)) (fun _ => ?_)
  refine lv_iload_n hx hb dX5_layMinors_72 rfl (lv_at hl 6 rfl) ?_
  refine lv_iload hx hb dX5_layMinors_73 (lv_at hl 0 rfl) ?_
  refine lv_ishr hx hb dX5_layMinors_75 ?_
  refine lv_eqi (v := 3) (by decide) ?_
  refine lv_iconst (v := 1) hx hb dX5_layMinors_76 (by decide) ?_
  refine lv_iand hx hb dX5_layMinors_77 ?_
  refine lv_eqi (v := 1) (by decide) ?_
  refine lv_iconst (v := 1) hx hb dX5_layMinors_78 (by decide) ?_
  refine lv_icmp_ne (tgt := 129) hx hb dX5_layMinors_79 (by decide) (fun h => absurd (by decide) h) (fun _ => ?_)
  refine lv_aload_n hx hb dX5_layMinors_82 rfl (lv_at hl 5 rfl) ?_
  refine va_get (D := D) (ci := 5) (v := .ref mR) (C := RX5) (T := TX5) (N := 17) hx hb hts k_2 hown hK.1 hP 0 rfl rfl 5 (by decide) k_4 (fun _ h9 => h9) rfl dX5_layMinors_83 ?_
  refine lv_bipush (v := 6) hx hb dX5_layMinors_86 (by decide) ?_
  refine lv_iload_n hx hb dX5_layMinors_88 rfl (lv_at hl 4 rfl) ?_
  refine lv_imul hx hb dX5_layMinors_89 ?_
  refine lv_eqi (v := 18) (by decide) ?_
  refine lv_iload hx hb dX5_layMinors_90 (lv_at hl 0 rfl) ?_
  refine lv_iadd hx hb dX5_layMinors_92 ?_
  refine lv_eqi (v := 22) (by decide) ?_
  refine ld_l hx hb hK.1 hP 1 1 rfl rfl (ix_lit (by decide)) 22 (by decide) (v := fr 22) rfl dX5_layMinors_93 ?_
  refine lv_aload_n hx hb dX5_layMinors_94 rfl (lv_at hl 5 rfl) ?_
  refine va_get (D := D) (ci := 5) (v := .ref mD) (C := RX5) (T := TX5) (N := 17) hx hb hts k_2 hown hK.1 hP 0 rfl rfl 6 (by decide) k_1 (fun _ h9 => h9) rfl dX5_layMinors_95 ?_
  refine lv_iload_n hx hb dX5_layMinors_98 rfl (lv_at hl 6 rfl) ?_
  refine lv_iconst (v := 1) hx hb dX5_layMinors_99 (by decide) ?_
  refine lv_iload hx hb dX5_layMinors_100 (lv_at hl 0 rfl) ?_
  refine lv_ishl hx hb dX5_layMinors_102 ?_
  refine lv_eqi (v := 16) (by decide) ?_
  refine lv_isub hx hb dX5_layMinors_103 ?_
  refine lv_eqi (v := 42) (by decide) ?_
  refine ld_l hx hb hK.1 hP 2 1 rfl rfl (ix_lit (by decide)) 42 (by decide) (v := z5_mw42 fr) rfl dX5_layMinors_104 ?_
  refine lv_lmul hx hb dX5_layMinors_105 ?_
  refine lv_lstore (lv' := [(7, .long ((fr 22) * (z5_mw42 fr))), (6, .int 4), (5, .int 1), (3, .long ((0 + (-((fr 19) * (z5_mw56 fr)))) + ((fr 21) * (z5_mw50 fr)))), (2, .int 3), (0, .ref o), (1, .int 58)]) hx hb dX5_layMinors_106 hl (by decide) rfl (fun ls hl => ?_)
  refine lv_lload_n hx hb dX5_layMinors_108 rfl (lv_at hl 3 rfl) ?_
  refine lv_iload hx hb dX5_layMinors_109 (lv_at hl 2 rfl) ?_
  refine lv_iconst (v := 2) hx hb dX5_layMinors_111 (by decide) ?_
  refine lv_irem hx hb dX5_layMinors_112 (by decide) ?_
  refine lv_eqi (v := 1) (by decide) ?_
  refine lv_if_ne (tgt := 121) hx hb dX5_layMinors_113 (by decide) (fun _ => ?_) (fun h => absurd h (by decide))
  refine lv_lload hx hb dX5_layMinors_121 (lv_at hl 0 rfl) ?_
  refine lv_lneg hx hb dX5_layMinors_123 ?_
  refine lv_ladd hx hb dX5_layMinors_124 ?_
  refine lv_lstore_n (lv' := [(3, .long (((0 + (-((fr 19) * (z5_mw56 fr)))) + ((fr 21) * (z5_mw50 fr))) + (-((fr 22) * (z5_mw42 fr))))), (7, .long ((fr 22) * (z5_mw42 fr))), (6, .int 4), (5, .int 1), (2, .int 3), (0, .ref o), (1, .int 58)]) hx hb dX5_layMinors_125 rfl hl (by decide) rfl (fun ls hl => ?_)
  refine lv_iinc (v := 0) (lv' := [(5, .int 0), (3, .long (((0 + (-((fr 19) * (z5_mw56 fr)))) + ((fr 21) * (z5_mw50 fr))) + (-((fr 22) * (z5_mw42 fr))))), (7, .long ((fr 22) * (z5_mw42 fr))), (6, .int 4), (2, .int 3), (0, .ref o), (1, .int 58)]) hx hb dX5_layMinors_126 hl (k := 3) rfl (by decide) (by decide) rfl (fun ls hl => ?_)
  refine lv_iinc (v := 5) (lv' := [(6, .int 5), (5, .int 0), (3, .long (((0 + (-((fr 19) * (z5_mw56 fr)))) + ((fr 21) * (z5_mw50 fr))) + (-((fr 22) * (z5_mw42 fr))))), (7, .long ((fr 22) * (z5_mw42 fr))), (2, .int 3), (0, .ref o), (1, .int 58)]) hx hb dX5_layMinors_129 hl (k := 3) rfl (by decide) (by decide) rfl (fun ls hl => ?_)
  refine lv_goto (tgt := 60) hx hb dX5_layMinors_132 (by decide) ?_
  refine lv_iload hx hb dX5_layMinors_60 (lv_at hl 0 rfl) ?_
  refine lv_bipush (v := 6) hx hb dX5_layMinors_62 (by decide) ?_
  refine lv_icmp_ge (tgt := 135) hx hb dX5_layMinors_64 (by decide) (fun h => absurd h (by decide)) (fun _ => ?_)
  refine lv_iload_n hx hb dX5_layMinors_67 rfl (lv_at hl 4 rfl) ?_
  refine lv_iconst (v := 5) hx hb dX5_layMinors_68 (by decide) ?_
  refine lv_icmp_ge (tgt := 135) hx hb dX5_layMinors_69 (by decide) (fun h => absurd h (by decide)) (fun _ => ?_)
  refine lv_iload_n hx hb dX5_layMinors_72 rfl (lv_at hl 6 rfl) ?_
  refine lv_iload hx hb dX5_layMinors_73 (lv_at hl 0 rfl) ?_
  refine lv_ishr hx hb dX5_layMinors_75 ?_
  refine lv_eqi (v := 1) (by decide) ?_
  refine lv_iconst (v := 1) hx hb dX5_layMinors_76 (by decide) ?_
  refine lv_iand hx hb dX5_layMinors_77 ?_
  refine lv_eqi (v := 1) (by decide) ?_
  refine lv_iconst (v := 1) hx hb dX5_layMinors_78 (by decide) ?_
  refine lv_icmp_ne (tgt := 129) hx hb dX5_layMinors_79 (by decide) (fun h => absurd (by decide) h) (fun _ => ?_)
  refine lv_aload_n hx hb dX5_layMinors_82 rfl (lv_at hl 5 rfl) ?_
  refine va_get (D := D) (ci := 5) (v := .ref mR) (C := RX5) (T := TX5) (N := 17) hx hb hts k_2 hown hK.1 hP 0 rfl rfl 5 (by decide) k_4 (fun _ h9 => h9) rfl dX5_layMinors_83 ?_
  refine lv_bipush (v := 6) hx hb dX5_layMinors_86 (by decide) ?_
  refine lv_iload_n hx hb dX5_layMinors_88 rfl (lv_at hl 4 rfl) ?_
  refine lv_imul hx hb dX5_layMinors_89 ?_
  refine lv_eqi (v := 18) (by decide) ?_
  refine lv_iload hx hb dX5_layMinors_90 (lv_at hl 0 rfl) ?_
  refine lv_iadd hx hb dX5_layMinors_92 ?_
  refine lv_eqi (v := 23) (by decide) ?_
  refine ld_l hx hb hK.1 hP 1 1 rfl rfl (ix_lit (by decide)) 23 (by decide) (v := fr 23) rfl dX5_layMinors_93 ?_
  refine lv_aload_n hx hb dX5_layMinors_94 rfl (lv_at hl 5 rfl) ?_
  refine va_get (D := D) (ci := 5) (v := .ref mD) (C := RX5) (T := TX5) (N := 17) hx hb hts k_2 hown hK.1 hP 0 rfl rfl 6 (by decide) k_1 (fun _ h9 => h9) rfl dX5_layMinors_95 ?_
  refine lv_iload_n hx hb dX5_layMinors_98 rfl (lv_at hl 6 rfl) ?_
  refine lv_iconst (v := 1) hx hb dX5_layMinors_99 (by decide) ?_
  refine lv_iload hx hb dX5_layMinors_100 (lv_at hl 0 rfl) ?_
  refine lv_ishl hx hb dX5_layMinors_102 ?_
  refine lv_eqi (v := 32) (by decide) ?_
  refine lv_isub hx hb dX5_layMinors_103 ?_
  refine lv_eqi (v := 26) (by decide) ?_
  refine ld_l hx hb hK.1 hP 2 1 rfl rfl (ix_lit (by decide)) 26 (by decide) (v := z5_mw26 fr) rfl dX5_layMinors_104 ?_
  refine lv_lmul hx hb dX5_layMinors_105 ?_
  refine lv_lstore (lv' := [(7, .long ((fr 23) * (z5_mw26 fr))), (6, .int 5), (5, .int 0), (3, .long (((0 + (-((fr 19) * (z5_mw56 fr)))) + ((fr 21) * (z5_mw50 fr))) + (-((fr 22) * (z5_mw42 fr))))), (2, .int 3), (0, .ref o), (1, .int 58)]) hx hb dX5_layMinors_106 hl (by decide) rfl (fun ls hl => ?_)
  refine lv_lload_n hx hb dX5_layMinors_108 rfl (lv_at hl 3 rfl) ?_
  refine lv_iload hx hb dX5_layMinors_109 (lv_at hl 2 rfl) ?_
  refine lv_iconst (v := 2) hx hb dX5_layMinors_111 (by decide) ?_
  refine lv_irem hx hb dX5_layMinors_112 (by decide) ?_
  refine lv_eqi (v := 0) (by decide) ?_
  refine lv_if_ne (tgt := 121) hx hb dX5_layMinors_113 (by decide) (fun h => absurd (by decide) h) (fun _ => ?_)
  refine lv_lload hx hb dX5_layMinors_116 (lv_at hl 0 rfl) ?_
  refine lv_goto (tgt := 124) hx hb dX5_layMinors_118 (by decide) ?_
  refine lv_ladd hx hb dX5_layMinors_124 ?_
  refine lv_lstore_n (lv' := [(3, .long ((((0 + (-((fr 19) * (z5_mw56 fr)))) + ((fr 21) * (z5_mw50 fr))) + (-((fr 22) * (z5_mw42 fr)))) + ((fr 23) * (z5_mw26 fr)))), (7, .long ((fr 23) * (z5_mw26 fr))), (6, .int 5), (5, .int 0), (2, .int 3), (0, .ref o), (1, .int 58)]) hx hb dX5_layMinors_125 rfl hl (by decide) rfl (fun ls hl => ?_)
  refine lv_iinc (v := (-1)) (lv' := [(5, .int (-1)), (3, .long ((((0 + (-((fr 19) * (z5_mw56 fr)))) + ((fr 21) * (z5_mw50 fr))) + (-((fr 22) * (z5_mw42 fr)))) + ((fr 23) * (z5_mw26 fr)))), (7, .long ((fr 23) * (z5_mw26 fr))), (6, .int 5), (2, .int 3), (0, .ref o), (1, .int 58)]) hx hb dX5_layMinors_126 hl (k := 3) rfl (by decide) (by decide) rfl (fun ls hl => ?_)
  refine lv_iinc (v := 6) (lv' := [(6, .int 6), (5, .int (-1)), (3, .long ((((0 + (-((fr 19) * (z5_mw56 fr)))) + ((fr 21) * (z5_mw50 fr))) + (-((fr 22) * (z5_mw42 fr)))) + ((fr 23) * (z5_mw26 fr)))), (7, .long ((fr 23) * (z5_mw26 fr))), (2, .int 3), (0, .ref o), (1, .int 58)]) hx hb dX5_layMinors_129 hl (k := 3) rfl (by decide) (by decide) rfl (fun ls hl => ?_)
  refine lv_goto (tgt := 60) hx hb dX5_layMinors_132 (by decide) ?_
  refine lv_iload hx hb dX5_layMinors_60 (lv_at hl 0 rfl) ?_
  refine lv_bipush (v := 6) hx hb dX5_layMinors_62 (by decide) ?_
  refine lv_icmp_ge (tgt := 135) hx hb dX5_layMinors_64 (by decide) (fun _ => ?_) (fun h => absurd (by decide) h)
  refine lv_aload_n hx hb dX5_layMinors_135 rfl (lv_at hl 5 rfl) ?_
  refine va_get (D := D) (ci := 5) (v := .ref mD) (C := RX5) (T := TX5) (N := 17) hx hb hts k_2 hown hK.1 hP 0 rfl rfl 6 (by decide) k_1 (fun _ h9 => h9) rfl dX5_layMinors_136 ?_
  refine lv_iload_n hx hb dX5_layMinors_139 rfl (lv_at hl 6 rfl) ?_
  refine lv_lload_n hx hb dX5_layMinors_140 rfl (lv_at hl 2 rfl) ?_
  refine st_l hx hb hK.1 hP hD hS 2 1 rfl rfl (ix_lit (by decide)) 58 (by decide) dX5_layMinors_141 (fun H locs hP hD hS => ?_)
  have hP : va_P D vwCl [kM o mP mL mC mN mF mR mD mV mX mA mK cm mT pm mU mH mI, kJ mR cJ 30 fr, kJ mD cJ 64 (vp_updL (z5_mm58 fr fd) 58 ((((0 + (-((fr 19) * (z5_mw56 fr)))) + ((fr 21) * (z5_mw50 fr))) + (-((fr 22) * (z5_mw42 fr)))) + ((fr 23) * (z5_mw26 fr))))] H := hP
  have hD : va_D A [kM o mP mL mC mN mF mR mD mV mX mA mK cm mT pm mU mH mI, kJ mR cJ 30 fr, kJ mD cJ 64 (vp_updL (z5_mm58 fr fd) 58 ((((0 + (-((fr 19) * (z5_mw56 fr)))) + ((fr 21) * (z5_mw50 fr))) + (-((fr 22) * (z5_mw42 fr)))) + ((fr 23) * (z5_mw26 fr))))] := hD
  have hP : va_P D vwCl [kM o mP mL mC mN mF mR mD mV mX mA mK cm mT pm mU mH mI, kJ mR cJ 30 fr, kJ mD cJ 64 (z5_mm59 fr fd)] H := hP
  have hD : va_D A [kM o mP mL mC mN mF mR mD mV mX mA mK cm mT pm mU mH mI, kJ mR cJ 30 fr, kJ mD cJ 64 (z5_mm59 fr fd)] := hD
  refine lv_iinc (v := 59) (lv' := [(1, .int 59), (6, .int 6), (5, .int (-1)), (3, .long ((((0 + (-((fr 19) * (z5_mw56 fr)))) + ((fr 21) * (z5_mw50 fr))) + (-((fr 22) * (z5_mw42 fr)))) + ((fr 23) * (z5_mw26 fr)))), (7, .long ((fr 23) * (z5_mw26 fr))), (2, .int 3), (0, .ref o)]) hx hb dX5_layMinors_142 hl (k := 6) rfl (by decide) (by decide) rfl (fun ls hl => ?_)
  refine lv_goto (tgt := 9) hx hb dX5_layMinors_145 (by decide) ?_
  exact sg_X5_layMinors_59 hx hb hr hml hown hts hlk hK hA hP hD hS ls (lv_sub hl [6, 0] rfl)
set_option maxHeartbeats 4000000 in
set_option maxRecDepth 100000 in
theorem sg_X5_layMinors_57 {l : Launch} {D : va_G} {cI cJ : ClassId} {pG : Program} {eG : Env} {sG : State} {mG : MethodId} {below : List Frame} {meth : Method} {cG : Code} {A : Nat → Prop} {H : Heap} {locs : List Loc} {o : Nat} {mP : Nat} {mL : Nat} {mC : Nat} {mN : Nat} {mF : Nat} {mR : Nat} {mD : Nat} {mV : Nat} {mX : Nat} {mA : Nat} {mK : Nat} {mT : Nat} {mU : Nat} {mH : Nat} {mI : Nat} {cm : Int32} {pm : Int32} {fr : Nat → Int64} {fd : Nat → Int64} (hx : pG.tables.exec = Jvm.exec) (hb : cG.code = cX5_layMinors) (hr : meth.sig.returnType = none) (hml : cG.maxLocals = 9) (hown : sG.vm.findClass RX5 = some mG.cls) (hts : ∀ x ∈ wsX5_layMinors, x.before ([.ref o] : List Value).toArray sG = true) (hlk : meth.locks = false) (hK : gd_K D cI cJ sG) (hA : ∀ q : Nat, sG.heap.size ≤ q → A q) (hP : va_P D vwCl [kM o mP mL mC mN mF mR mD mV mX mA mK cm mT pm mU mH mI, kJ mR cJ 30 fr, kJ mD cJ 64 (z5_mm57 fr fd)] H) (hD : va_D A [kM o mP mL mC mN mF mR mD mV mX mA mK cm mT pm mU mH mI, kJ mR cJ 30 fr, kJ mD cJ 64 (z5_mm57 fr fd)]) (hS : va_S A sG.heap H locs) (ls : Array Slot) (hl : lv_has ls 9 [(0, .ref o), (1, .int 57)]) : W pG l eG (headSpec wsX5_layMinors ({ frames := 0, cells := 0, slots := 0, locals := 0 })).room sG mG ([.ref o] : List Value).toArray below meth cG H locs 0 0 (MQ below ((qe_v (fun _ : Unit => True) (fun uu => [kM o mP mL mC mN mF mR mD mV mX mA mK cm mT pm mU mH mI, kJ mR cJ 30 fr, kJ mD cJ 64 (z5_layMinors_f2 fr fd)])) D A) ([.ref o] : List Value).toArray sG 0 0 A) (F0 mG 9 ls []) := by
  have k_1 := hts (.fieldLink RX5 29 "ConicRowsModel" "minors" "[J") (by decide +kernel)
  have k_2 : ∀ w ∈ wsX50, w ∈ wsX5_layMinors := by decide +kernel
  have k_3 := hts (.constant RX5 122 (-1000001)) (by decide +kernel)
  have k_4 := hts (.fieldLink RX5 26 "ConicRowsModel" "rows" "[J") (by decide +kernel)
  refine lv_iload_n hx hb dX5_layMinors_9 rfl (lv_at hl 1 rfl) ?_
  refine lv_bipush (v := 64) hx hb dX5_layMinors_10 (by decide) ?_
  refine lv_icmp_ge (tgt := 148) hx hb dX5_layMinors_12 (by decide) (fun h => absurd h (by decide)) (fun _ => ?_)
  refine lv_ldc hx hb hown k_3 dX5_layMinors_15 ?_
  refine lv_istore_n (lv' := [(2, .int (-1000001)), (0, .ref o), (1, .int 57)]) hx hb dX5_layMinors_17 rfl hl (by decide) rfl (fun ls hl => ?_)
  refine lv_iconst (v := 0) hx hb dX5_layMinors_18 (by decide) ?_
  refine lv_istore_n (lv' := [(3, .int 0), (2, .int (-1000001)), (0, .ref o), (1, .int 57)]) hx hb dX5_layMinors_19 rfl hl (by decide) rfl (fun ls hl => ?_)
  refine lv_iload_n hx hb dX5_layMinors_20 rfl (lv_at hl 0 rfl) ?_
  refine lv_bipush (v := 6) hx hb dX5_layMinors_21 (by decide) ?_
  refine lv_icmp_ge (tgt := 52) hx hb dX5_layMinors_23 (by decide) (fun h => absurd h (by decide)) (fun _ => ?_)
  refine lv_iload_n hx hb dX5_layMinors_26 rfl (lv_at hl 1 rfl) ?_
  refine lv_ldc hx hb hown k_3 dX5_layMinors_27 ?_
  refine lv_icmp_ne (tgt := 36) hx hb dX5_layMinors_29 (by decide) (fun h => absurd (by decide) h) (fun _ => ?_)
  refine lv_iconst (v := (-1)) hx hb dX5_layMinors_32 (by decide) ?_
  refine lv_goto (tgt := 37) hx hb dX5_layMinors_33 (by decide) ?_
  refine lv_istore_n (lv' := [(2, .int (-1)), (3, .int 0), (0, .ref o), (1, .int 57)]) hx hb dX5_layMinors_37 rfl hl (by decide) rfl (fun ls hl => ?_)
  refine lv_iload_n hx hb dX5_layMinors_38 rfl (lv_at hl 0 rfl) ?_
  refine lv_iload_n hx hb dX5_layMinors_39 rfl (lv_at hl 3 rfl) ?_
  refine lv_iload_n hx hb dX5_layMinors_40 rfl (lv_at hl 1 rfl) ?_
  refine lv_ishr hx hb dX5_layMinors_41 ?_
  refine lv_eqi (v := 57) (by decide) ?_
  refine lv_iconst (v := 1) hx hb dX5_layMinors_42 (by decide) ?_
  refine lv_iand hx hb dX5_layMinors_43 ?_
  refine lv_eqi (v := 1) (by decide) ?_
  refine lv_iadd hx hb dX5_layMinors_44 ?_
  refine lv_eqi (v := 0) (by decide) ?_
  refine lv_istore_n (lv' := [(2, .int 0), (3, .int 0), (0, .ref o), (1, .int 57)]) hx hb dX5_layMinors_45 rfl hl (by decide) rfl (fun ls hl => ?_)
  refine lv_iinc (v := 1) (lv' := [(3, .int 1), (2, .int 0), (0, .ref o), (1, .int 57)]) hx hb dX5_layMinors_46 hl (k := 1) rfl (by decide) (by decide) rfl (fun ls hl => ?_)
  refine lv_goto (tgt := 20) hx hb dX5_layMinors_49 (by decide) ?_
  refine lv_iload_n hx hb dX5_layMinors_20 rfl (lv_at hl 0 rfl) ?_
  refine lv_bipush (v := 6) hx hb dX5_layMinors_21 (by decide) ?_
  refine lv_icmp_ge (tgt := 52) hx hb dX5_layMinors_23 (by decide) (fun h => absurd h (by decide)) (fun _ => ?_)
  refine lv_iload_n hx hb dX5_layMinors_26 rfl (lv_at hl 1 rfl) ?_
  refine lv_ldc hx hb hown k_3 dX5_layMinors_27 ?_
  refine lv_icmp_ne (tgt := 36) hx hb dX5_layMinors_29 (by decide) (fun _ => ?_) (fun h => absurd h (by decide))
  refine lv_iload_n hx hb dX5_layMinors_36 rfl (lv_at hl 1 rfl) ?_
  refine lv_istore_n (lv' := [(2, .int 0), (3, .int 1), (0, .ref o), (1, .int 57)]) hx hb dX5_layMinors_37 rfl hl (by decide) rfl (fun ls hl => ?_)
  refine lv_iload_n hx hb dX5_layMinors_38 rfl (lv_at hl 0 rfl) ?_
  refine lv_iload_n hx hb dX5_layMinors_39 rfl (lv_at hl 3 rfl) ?_
  refine lv_iload_n hx hb dX5_layMinors_40 rfl (lv_at hl 1 rfl) ?_
  refine lv_ishr hx hb dX5_layMinors_41 ?_
  refine lv_eqi (v := 28) (by decide) ?_
  refine lv_iconst (v := 1) hx hb dX5_layMinors_42 (by decide) ?_
  refine lv_iand hx hb dX5_layMinors_43 ?_
  refine lv_eqi (v := 0) (by decide) ?_
  refine lv_iadd hx hb dX5_layMinors_44 ?_
  refine lv_eqi (v := 0) (by decide) ?_
  refine lv_istore_n (lv' := [(2, .int 0), (3, .int 1), (0, .ref o), (1, .int 57)]) hx hb dX5_layMinors_45 rfl hl (by decide) rfl (fun ls hl => ?_)
  refine lv_iinc (v := 2) (lv' := [(3, .int 2), (2, .int 0), (0, .ref o), (1, .int 57)]) hx hb dX5_layMinors_46 hl (k := 1) rfl (by decide) (by decide) rfl (fun ls hl => ?_)
  refine lv_goto (tgt := 20) hx hb dX5_layMinors_49 (by decide) ?_
  refine lv_iload_n hx hb dX5_layMinors_20 rfl (lv_at hl 0 rfl) ?_
  refine lv_bipush (v := 6) hx hb dX5_layMinors_21 (by decide) ?_
  refine lv_icmp_ge (tgt := 52) hx hb dX5_layMinors_23 (by decide) (fun h => absurd h (by decide)) (fun _ => ?_)
  refine lv_iload_n hx hb dX5_layMinors_26 rfl (lv_at hl 1 rfl) ?_
  refine lv_ldc hx hb hown k_3 dX5_layMinors_27 ?_
  refine lv_icmp_ne (tgt := 36) hx hb dX5_layMinors_29 (by decide) (fun _ => ?_) (fun h => absurd h (by decide))
  refine lv_iload_n hx hb dX5_layMinors_36 rfl (lv_at hl 1 rfl) ?_
  refine lv_istore_n (lv' := [(2, .int 0), (3, .int 2), (0, .ref o), (1, .int 57)]) hx hb dX5_layMinors_37 rfl hl (by decide) rfl (fun ls hl => ?_)
  refine lv_iload_n hx hb dX5_layMinors_38 rfl (lv_at hl 0 rfl) ?_
  refine lv_iload_n hx hb dX5_layMinors_39 rfl (lv_at hl 3 rfl) ?_
  refine lv_iload_n hx hb dX5_layMinors_40 rfl (lv_at hl 1 rfl) ?_
  refine lv_ishr hx hb dX5_layMinors_41 ?_
  refine lv_eqi (v := 14) (by decide) ?_
  refine lv_iconst (v := 1) hx hb dX5_layMinors_42 (by decide) ?_
  refine lv_iand hx hb dX5_layMinors_43 ?_
  refine lv_eqi (v := 0) (by decide) ?_
  refine lv_iadd hx hb dX5_layMinors_44 ?_
  refine lv_eqi (v := 0) (by decide) ?_
  refine lv_istore_n (lv' := [(2, .int 0), (3, .int 2), (0, .ref o), (1, .int 57)]) hx hb dX5_layMinors_45 rfl hl (by decide) rfl (fun ls hl => ?_)
  refine lv_iinc (v := 3) (lv' := [(3, .int 3), (2, .int 0), (0, .ref o), (1, .int 57)]) hx hb dX5_layMinors_46 hl (k := 1) rfl (by decide) (by decide) rfl (fun ls hl => ?_)
  refine lv_goto (tgt := 20) hx hb dX5_layMinors_49 (by decide) ?_
  refine lv_iload_n hx hb dX5_layMinors_20 rfl (lv_at hl 0 rfl) ?_
  refine lv_bipush (v := 6) hx hb dX5_layMinors_21 (by decide) ?_
  refine lv_icmp_ge (tgt := 52) hx hb dX5_layMinors_23 (by decide) (fun h => absurd h (by decide)) (fun _ => ?_)
  refine lv_iload_n hx hb dX5_layMinors_26 rfl (lv_at hl 1 rfl) ?_
  refine lv_ldc hx hb hown k_3 dX5_layMinors_27 ?_
  refine lv_icmp_ne (tgt := 36) hx hb dX5_layMinors_29 (by decide) (fun _ => ?_) (fun h => absurd h (by decide))
  refine lv_iload_n hx hb dX5_layMinors_36 rfl (lv_at hl 1 rfl) ?_
  refine lv_istore_n (lv' := [(2, .int 0), (3, .int 3), (0, .ref o), (1, .int 57)]) hx hb dX5_layMinors_37 rfl hl (by decide) rfl (fun ls hl => ?_)
  refine lv_iload_n hx hb dX5_layMinors_38 rfl (lv_at hl 0 rfl) ?_
  refine lv_iload_n hx hb dX5_layMinors_39 rfl (lv_at hl 3 rfl) ?_
  refine lv_iload_n hx hb dX5_layMinors_40 rfl (lv_at hl 1 rfl) ?_
  refine lv_ishr hx hb dX5_layMinors_41 ?_
  refine lv_eqi (v := 7) (by decide) ?_
  refine lv_iconst (v := 1) hx hb dX5_layMinors_42 (by decide) ?_
  refine lv_iand hx hb dX5_layMinors_43 ?_
  refine lv_eqi (v := 1) (by decide) ?_
  refine lv_iadd hx hb dX5_layMinors_44 ?_
  refine lv_eqi (v := 1) (by decide) ?_
  refine lv_istore_n (lv' := [(2, .int 1), (3, .int 3), (0, .ref o), (1, .int 57)]) hx hb dX5_layMinors_45 rfl hl (by decide) rfl (fun ls hl => ?_)
  refine lv_iinc (v := 4) (lv' := [(3, .int 4), (2, .int 1), (0, .ref o), (1, .int 57)]) hx hb dX5_layMinors_46 hl (k := 1) rfl (by decide) (by decide) rfl (fun ls hl => ?_)
  refine lv_goto (tgt := 20) hx hb dX5_layMinors_49 (by decide) ?_
  refine lv_iload_n hx hb dX5_layMinors_20 rfl (lv_at hl 0 rfl) ?_
  refine lv_bipush (v := 6) hx hb dX5_layMinors_21 (by decide) ?_
  refine lv_icmp_ge (tgt := 52) hx hb dX5_layMinors_23 (by decide) (fun h => absurd h (by decide)) (fun _ => ?_)
  refine lv_iload_n hx hb dX5_layMinors_26 rfl (lv_at hl 1 rfl) ?_
  refine lv_ldc hx hb hown k_3 dX5_layMinors_27 ?_
  refine lv_icmp_ne (tgt := 36) hx hb dX5_layMinors_29 (by decide) (fun _ => ?_) (fun h => absurd h (by decide))
  refine lv_iload_n hx hb dX5_layMinors_36 rfl (lv_at hl 1 rfl) ?_
  refine lv_istore_n (lv' := [(2, .int 1), (3, .int 4), (0, .ref o), (1, .int 57)]) hx hb dX5_layMinors_37 rfl hl (by decide) rfl (fun ls hl => ?_)
  refine lv_iload_n hx hb dX5_layMinors_38 rfl (lv_at hl 0 rfl) ?_
  refine lv_iload_n hx hb dX5_layMinors_39 rfl (lv_at hl 3 rfl) ?_
  refine lv_iload_n hx hb dX5_layMinors_40 rfl (lv_at hl 1 rfl) ?_
  refine lv_ishr hx hb dX5_layMinors_41 ?_
  refine lv_eqi (v := 3) (by decide) ?_
  refine lv_iconst (v := 1) hx hb dX5_layMinors_42 (by decide) ?_
  refine lv_iand hx hb dX5_layMinors_43 ?_
  refine lv_eqi (v := 1) (by decide) ?_
  refine lv_iadd hx hb dX5_layMinors_44 ?_
  refine lv_eqi (v := 2) (by decide) ?_
  refine lv_istore_n (lv' := [(2, .int 2), (3, .int 4), (0, .ref o), (1, .int 57)]) hx hb dX5_layMinors_45 rfl hl (by decide) rfl (fun ls hl => ?_)
  refine lv_iinc (v := 5) (lv' := [(3, .int 5), (2, .int 2), (0, .ref o), (1, .int 57)]) hx hb dX5_layMinors_46 hl (k := 1) rfl (by decide) (by decide) rfl (fun ls hl => ?_)
  refine lv_goto (tgt := 20) hx hb dX5_layMinors_49 (by decide) ?_
  refine lv_iload_n hx hb dX5_layMinors_20 rfl (lv_at hl 0 rfl) ?_
  refine lv_bipush (v := 6) hx hb dX5_layMinors_21 (by decide) ?_
  refine lv_icmp_ge (tgt := 52) hx hb dX5_layMinors_23 (by decide) (fun h => absurd h (by decide)) (fun _ => ?_)
  refine lv_iload_n hx hb dX5_layMinors_26 rfl (lv_at hl 1 rfl) ?_
  refine lv_ldc hx hb hown k_3 dX5_layMinors_27 ?_
  refine lv_icmp_ne (tgt := 36) hx hb dX5_layMinors_29 (by decide) (fun _ => ?_) (fun h => absurd h (by decide))
  refine lv_iload_n hx hb dX5_layMinors_36 rfl (lv_at hl 1 rfl) ?_
  refine lv_istore_n (lv' := [(2, .int 2), (3, .int 5), (0, .ref o), (1, .int 57)]) hx hb dX5_layMinors_37 rfl hl (by decide) rfl (fun ls hl => ?_)
  refine lv_iload_n hx hb dX5_layMinors_38 rfl (lv_at hl 0 rfl) ?_
  refine lv_iload_n hx hb dX5_layMinors_39 rfl (lv_at hl 3 rfl) ?_
  refine lv_iload_n hx hb dX5_layMinors_40 rfl (lv_at hl 1 rfl) ?_
  refine lv_ishr hx hb dX5_layMinors_41 ?_
  refine lv_eqi (v := 1) (by decide) ?_
  refine lv_iconst (v := 1) hx hb dX5_layMinors_42 (by decide) ?_
  refine lv_iand hx hb dX5_layMinors_43 ?_
  refine lv_eqi (v := 1) (by decide) ?_
  refine lv_iadd hx hb dX5_layMinors_44 ?_
  refine lv_eqi (v := 3) (by decide) ?_
  refine lv_istore_n (lv' := [(2, .int 3), (3, .int 5), (0, .ref o), (1, .int 57)]) hx hb dX5_layMinors_45 rfl hl (by decide) rfl (fun ls hl => ?_)
  refine lv_iinc (v := 6) (lv' := [(3, .int 6), (2, .int 3), (0, .ref o), (1, .int 57)]) hx hb dX5_layMinors_46 hl (k := 1) rfl (by decide) (by decide) rfl (fun ls hl => ?_)
  refine lv_goto (tgt := 20) hx hb dX5_layMinors_49 (by decide) ?_
  refine lv_iload_n hx hb dX5_layMinors_20 rfl (lv_at hl 0 rfl) ?_
  refine lv_bipush (v := 6) hx hb dX5_layMinors_21 (by decide) ?_
  refine lv_icmp_ge (tgt := 52) hx hb dX5_layMinors_23 (by decide) (fun _ => ?_) (fun h => absurd (by decide) h)
  refine lv_lconst (v := 0) hx hb dX5_layMinors_52 (by decide) ?_
  refine lv_lstore_n (lv' := [(3, .long 0), (2, .int 3), (0, .ref o), (1, .int 57)]) hx hb dX5_layMinors_53 rfl hl (by decide) rfl (fun ls hl => ?_)
  refine lv_iload_n hx hb dX5_layMinors_54 rfl (lv_at hl 1 rfl) ?_
  refine lv_istore (lv' := [(5, .int 3), (3, .long 0), (2, .int 3), (0, .ref o), (1, .int 57)]) hx hb dX5_layMinors_55 hl (by decide) rfl (fun ls hl => ?_)
  refine lv_iconst (v := 0) hx hb dX5_layMinors_57 (by decide) ?_
  refine lv_istore (lv' := [(6, .int 0), (5, .int 3), (3, .long 0), (2, .int 3), (0, .ref o), (1, .int 57)]) hx hb dX5_layMinors_58 hl (by decide) rfl (fun ls hl => ?_)
  refine lv_iload hx hb dX5_layMinors_60 (lv_at hl 0 rfl) ?_
  refine lv_bipush (v := 6) hx hb dX5_layMinors_62 (by decide) ?_
  refine lv_icmp_ge (tgt := 135) hx hb dX5_layMinors_64 (by decide) (fun h => absurd h (by decide)) (fun _ => ?_)
  refine lv_iload_n hx hb dX5_layMinors_67 rfl (lv_at hl 3 rfl) ?_
  refine lv_iconst (v := 5) hx hb dX5_layMinors_68 (by decide) ?_
  refine lv_icmp_ge (tgt := 135) hx hb dX5_layMinors_69 (by decide) (fun h => absurd h (by decide)) (fun _ => ?_)
  refine lv_iload_n hx hb dX5_layMinors_72 rfl (lv_at hl 5 rfl) ?_
  refine lv_iload hx hb dX5_layMinors_73 (lv_at hl 0 rfl) ?_
  refine lv_ishr hx hb dX5_layMinors_75 ?_
  refine lv_eqi (v := 57) (by decide) ?_
  refine lv_iconst (v := 1) hx hb dX5_layMinors_76 (by decide) ?_
  refine lv_iand hx hb dX5_layMinors_77 ?_
  refine lv_eqi (v := 1) (by decide) ?_
  refine lv_iconst (v := 1) hx hb dX5_layMinors_78 (by decide) ?_
  refine lv_icmp_ne (tgt := 129) hx hb dX5_layMinors_79 (by decide) (fun h => absurd (by decide) h) (fun _ => ?_)
  refine lv_aload_n hx hb dX5_layMinors_82 rfl (lv_at hl 4 rfl) ?_
  refine va_get (D := D) (ci := 5) (v := .ref mR) (C := RX5) (T := TX5) (N := 17) hx hb hts k_2 hown hK.1 hP 0 rfl rfl 5 (by decide) k_4 (fun _ h9 => h9) rfl dX5_layMinors_83 ?_
  refine lv_bipush (v := 6) hx hb dX5_layMinors_86 (by decide) ?_
  refine lv_iload_n hx hb dX5_layMinors_88 rfl (lv_at hl 3 rfl) ?_
  refine lv_imul hx hb dX5_layMinors_89 ?_
  refine lv_eqi (v := 18) (by decide) ?_
  refine lv_iload hx hb dX5_layMinors_90 (lv_at hl 0 rfl) ?_
  refine lv_iadd hx hb dX5_layMinors_92 ?_
  refine lv_eqi (v := 18) (by decide) ?_
  refine ld_l hx hb hK.1 hP 1 1 rfl rfl (ix_lit (by decide)) 18 (by decide) (v := fr 18) rfl dX5_layMinors_93 ?_
  refine lv_aload_n hx hb dX5_layMinors_94 rfl (lv_at hl 4 rfl) ?_
  refine va_get (D := D) (ci := 5) (v := .ref mD) (C := RX5) (T := TX5) (N := 17) hx hb hts k_2 hown hK.1 hP 0 rfl rfl 6 (by decide) k_1 (fun _ h9 => h9) rfl dX5_layMinors_95 ?_
  refine lv_iload_n hx hb dX5_layMinors_98 rfl (lv_at hl 5 rfl) ?_
  refine lv_iconst (v := 1) hx hb dX5_layMinors_99 (by decide) ?_
  refine lv_iload hx hb dX5_layMinors_100 (lv_at hl 0 rfl) ?_
  refine lv_ishl hx hb dX5_layMinors_102 ?_
  refine lv_eqi (v := 1) (by decide) ?_
  refine lv_isub hx hb dX5_layMinors_103 ?_
  refine lv_eqi (v := 56) (by decide) ?_
  refine ld_l hx hb hK.1 hP 2 1 rfl rfl (ix_lit (by decide)) 56 (by decide) (v := z5_mw56 fr) rfl dX5_layMinors_104 ?_
  refine lv_lmul hx hb dX5_layMinors_105 ?_
  refine lv_lstore (lv' := [(7, .long ((fr 18) * (z5_mw56 fr))), (6, .int 0), (5, .int 3), (3, .long 0), (2, .int 3), (0, .ref o), (1, .int 57)]) hx hb dX5_layMinors_106 hl (by decide) rfl (fun ls hl => ?_)
  refine lv_lload_n hx hb dX5_layMinors_108 rfl (lv_at hl 3 rfl) ?_
  refine lv_iload hx hb dX5_layMinors_109 (lv_at hl 2 rfl) ?_
  refine lv_iconst (v := 2) hx hb dX5_layMinors_111 (by decide) ?_
  refine lv_irem hx hb dX5_layMinors_112 (by decide) ?_
  refine lv_eqi (v := 1) (by decide) ?_
  refine lv_if_ne (tgt := 121) hx hb dX5_layMinors_113 (by decide) (fun _ => ?_) (fun h => absurd h (by decide))
  refine lv_lload hx hb dX5_layMinors_121 (lv_at hl 0 rfl) ?_
  refine lv_lneg hx hb dX5_layMinors_123 ?_
  refine lv_ladd hx hb dX5_layMinors_124 ?_
  refine lv_lstore_n (lv' := [(3, .long (0 + (-((fr 18) * (z5_mw56 fr))))), (7, .long ((fr 18) * (z5_mw56 fr))), (6, .int 0), (5, .int 3), (2, .int 3), (0, .ref o), (1, .int 57)]) hx hb dX5_layMinors_125 rfl hl (by decide) rfl (fun ls hl => ?_)
  refine lv_iinc (v := 2) (lv' := [(5, .int 2), (3, .long (0 + (-((fr 18) * (z5_mw56 fr))))), (7, .long ((fr 18) * (z5_mw56 fr))), (6, .int 0), (2, .int 3), (0, .ref o), (1, .int 57)]) hx hb dX5_layMinors_126 hl (k := 3) rfl (by decide) (by decide) rfl (fun ls hl => ?_)
  refine lv_iinc (v := 1) (lv' := [(6, .int 1), (5, .int 2), (3, .long (0 + (-((fr 18) * (z5_mw56 fr))))), (7, .long ((fr 18) * (z5_mw56 fr))), (2, .int 3), (0, .ref o), (1, .int 57)]) hx hb dX5_layMinors_129 hl (k := 3) rfl (by decide) (by decide) rfl (fun ls hl => ?_)
  refine lv_goto (tgt := 60) hx hb dX5_layMinors_132 (by decide) ?_
  refine lv_iload hx hb dX5_layMinors_60 (lv_at hl 0 rfl) ?_
  refine lv_bipush (v := 6) hx hb dX5_layMinors_62 (by decide) ?_
  refine lv_icmp_ge (tgt := 135) hx hb dX5_layMinors_64 (by decide) (fun h => absurd h (by decide)) (fun _ => ?_)
  refine lv_iload_n hx hb dX5_layMinors_67 rfl (lv_at hl 4 rfl) ?_
  refine lv_iconst (v := 5) hx hb dX5_layMinors_68 (by decide) ?_
  refine lv_icmp_ge (tgt := 135) hx hb dX5_layMinors_69 (by decide) (fun h => absurd h (by decide)) (fun _ => ?_)
  refine lv_iload_n hx hb dX5_layMinors_72 rfl (lv_at hl 6 rfl) ?_
  refine lv_iload hx hb dX5_layMinors_73 (lv_at hl 0 rfl) ?_
  refine lv_ishr hx hb dX5_layMinors_75 ?_
  refine lv_eqi (v := 28) (by decide) ?_
  refine lv_iconst (v := 1) hx hb dX5_layMinors_76 (by decide) ?_
  refine lv_iand hx hb dX5_layMinors_77 ?_
  refine lv_eqi (v := 0) (by decide) ?_
  refine lv_iconst (v := 1) hx hb dX5_layMinors_78 (by decide) ?_
  refine lv_icmp_ne (tgt := 129) hx hb dX5_layMinors_79 (by decide) (fun _ => ?_) (fun h => absurd h (by decide))
  refine lv_iinc (v := 2) (lv' := [(6, .int 2), (5, .int 2), (3, .long (0 + (-((fr 18) * (z5_mw56 fr))))), (7, .long ((fr 18) * (z5_mw56 fr))), (2, .int 3), (0, .ref o), (1, .int 57)]) hx hb dX5_layMinors_129 hl (k := 0) rfl (by decide) (by decide) rfl (fun ls hl => ?_)
  refine lv_goto (tgt := 60) hx hb dX5_layMinors_132 (by decide) ?_
  refine lv_iload hx hb dX5_layMinors_60 (lv_at hl 0 rfl) ?_
  refine lv_bipush (v := 6) hx hb dX5_layMinors_62 (by decide) ?_
  refine lv_icmp_ge (tgt := 135) hx hb dX5_layMinors_64 (by decide) (fun h => absurd h (by decide)) (fun _ => ?_)
  refine lv_iload_n hx hb dX5_layMinors_67 rfl (lv_at hl 4 rfl) ?_
  refine lv_iconst (v := 5) hx hb dX5_layMinors_68 (by decide) ?_
  refine lv_icmp_ge (tgt := 135) hx hb dX5_layMinors_69 (by decide) (fun h => absurd h (by decide)) (fun _ => ?_)
  refine lv_iload_n hx hb dX5_layMinors_72 rfl (lv_at hl 6 rfl) ?_
  refine lv_iload hx hb dX5_layMinors_73 (lv_at hl 0 rfl) ?_
  refine lv_ishr hx hb dX5_layMinors_75 ?_
  refine lv_eqi (v := 14) (by decide) ?_
  refine lv_iconst (v := 1) hx hb dX5_layMinors_76 (by decide) ?_
  refine lv_iand hx hb dX5_layMinors_77 ?_
  refine lv_eqi (v := 0) (by decide) ?_
  refine lv_iconst (v := 1) hx hb dX5_layMinors_78 (by decide) ?_
  refine lv_icmp_ne (tgt := 129) hx hb dX5_layMinors_79 (by decide) (fun _ => ?_) (fun h => absurd h (by decide))
  refine lv_iinc (v := 3) (lv' := [(6, .int 3), (5, .int 2), (3, .long (0 + (-((fr 18) * (z5_mw56 fr))))), (7, .long ((fr 18) * (z5_mw56 fr))), (2, .int 3), (0, .ref o), (1, .int 57)]) hx hb dX5_layMinors_129 hl (k := 0) rfl (by decide) (by decide) rfl (fun ls hl => ?_)
  refine lv_goto (tgt := 60) hx hb dX5_layMinors_132 (by decide) ?_
  refine lv_iload hx hb dX5_layMinors_60 (lv_at hl 0 rfl) ?_
  refine lv_bipush (v := 6) hx hb dX5_layMinors_62 (by decide) ?_
  refine lv_icmp_ge (tgt := 135) hx hb dX5_layMinors_64 (by decide) (fun h => absurd h (by decide)) (fun _ => ?_)
  refine lv_iload_n hx hb dX5_layMinors_67 rfl (lv_at hl 4 rfl) ?_
  refine lv_iconst (v := 5) hx hb dX5_layMinors_68 (by decide) ?_
  refine lv_icmp_ge (tgt := 135) hx hb dX5_layMinors_69 (by decide) (fun h => absurd h (by decide)) (fun _ => ?_)
  refine lv_iload_n hx hb dX5_layMinors_72 rfl (lv_at hl 6 rfl) ?_
  refine lv_iload hx hb dX5_layMinors_73 (lv_at hl 0 rfl) ?_
  refine lv_ishr hx hb dX5_layMinors_75 ?_
  refine lv_eqi (v := 7) (by decide) ?_
  refine lv_iconst (v := 1) hx hb dX5_layMinors_76 (by decide) ?_
  refine lv_iand hx hb dX5_layMinors_77 ?_
  refine lv_eqi (v := 1) (by decide) ?_
  refine lv_iconst (v := 1) hx hb dX5_layMinors_78 (by decide) ?_
  refine lv_icmp_ne (tgt := 129) hx hb dX5_layMinors_79 (by decide) (fun h => absurd (by decide) h) (fun _ => ?_)
  refine lv_aload_n hx hb dX5_layMinors_82 rfl (lv_at hl 5 rfl) ?_
  refine va_get (D := D) (ci := 5) (v := .ref mR) (C := RX5) (T := TX5) (N := 17) hx hb hts k_2 hown hK.1 hP 0 rfl rfl 5 (by decide) k_4 (fun _ h9 => h9) rfl dX5_layMinors_83 ?_
  refine lv_bipush (v := 6) hx hb dX5_layMinors_86 (by decide) ?_
  refine lv_iload_n hx hb dX5_layMinors_88 rfl (lv_at hl 4 rfl) ?_
  refine lv_imul hx hb dX5_layMinors_89 ?_
  refine lv_eqi (v := 18) (by decide) ?_
  refine lv_iload hx hb dX5_layMinors_90 (lv_at hl 0 rfl) ?_
  refine lv_iadd hx hb dX5_layMinors_92 ?_
  refine lv_eqi (v := 21) (by decide) ?_
  refine ld_l hx hb hK.1 hP 1 1 rfl rfl (ix_lit (by decide)) 21 (by decide) (v := fr 21) rfl dX5_layMinors_93 ?_
  refine lv_aload_n hx hb dX5_layMinors_94 rfl (lv_at hl 5 rfl) ?_
  refine va_get (D := D) (ci := 5) (v := .ref mD) (C := RX5) (T := TX5) (N := 17) hx hb hts k_2 hown hK.1 hP 0 rfl rfl 6 (by decide) k_1 (fun _ h9 => h9) rfl dX5_layMinors_95 ?_
  refine lv_iload_n hx hb dX5_layMinors_98 rfl (lv_at hl 6 rfl) ?_
  refine lv_iconst (v := 1) hx hb dX5_layMinors_99 (by decide) ?_
  refine lv_iload hx hb dX5_layMinors_100 (lv_at hl 0 rfl) ?_
  refine lv_ishl hx hb dX5_layMinors_102 ?_
  refine lv_eqi (v := 8) (by decide) ?_
  refine lv_isub hx hb dX5_layMinors_103 ?_
  refine lv_eqi (v := 49) (by decide) ?_
  refine ld_l hx hb hK.1 hP 2 1 rfl rfl (ix_lit (by decide)) 49 (by decide) (v := z5_mw49 fr) rfl dX5_layMinors_104 ?_
  refine lv_lmul hx hb dX5_layMinors_105 ?_
  refine lv_lstore (lv' := [(7, .long ((fr 21) * (z5_mw49 fr))), (6, .int 3), (5, .int 2), (3, .long (0 + (-((fr 18) * (z5_mw56 fr))))), (2, .int 3), (0, .ref o), (1, .int 57)]) hx hb dX5_layMinors_106 hl (by decide) rfl (fun ls hl => ?_)
  refine lv_lload_n hx hb dX5_layMinors_108 rfl (lv_at hl 3 rfl) ?_
  refine lv_iload hx hb dX5_layMinors_109 (lv_at hl 2 rfl) ?_
  refine lv_iconst (v := 2) hx hb dX5_layMinors_111 (by decide) ?_
  refine lv_irem hx hb dX5_layMinors_112 (by decide) ?_
  refine lv_eqi (v := 0) (by decide) ?_
  refine lv_if_ne (tgt := 121) hx hb dX5_layMinors_113 (by decide) (fun h => absurd (by decide) h) (fun _ => ?_)
  refine lv_lload hx hb dX5_layMinors_116 (lv_at hl 0 rfl) ?_
  refine lv_goto (tgt := 124) hx hb dX5_layMinors_118 (by decide) ?_
  refine lv_ladd hx hb dX5_layMinors_124 ?_
  refine lv_lstore_n (lv' := [(3, .long ((0 + (-((fr 18) * (z5_mw56 fr)))) + ((fr 21) * (z5_mw49 fr)))), (7, .long ((fr 21) * (z5_mw49 fr))), (6, .int 3), (5, .int 2), (2, .int 3), (0, .ref o), (1, .int 57)]) hx hb dX5_layMinors_125 rfl hl (by decide) rfl (fun ls hl => ?_)
  refine lv_iinc (v := 1) (lv' := [(5, .int 1), (3, .long ((0 + (-((fr 18) * (z5_mw56 fr)))) + ((fr 21) * (z5_mw49 fr)))), (7, .long ((fr 21) * (z5_mw49 fr))), (6, .int 3), (2, .int 3), (0, .ref o), (1, .int 57)]) hx hb dX5_layMinors_126 hl (k := 3) rfl (by decide) (by decide) rfl (fun ls hl => ?_)
  refine lv_iinc (v := 4) (lv' := [(6, .int 4), (5, .int 1), (3, .long ((0 + (-((fr 18) * (z5_mw56 fr)))) + ((fr 21) * (z5_mw49 fr)))), (7, .long ((fr 21) * (z5_mw49 fr))), (2, .int 3), (0, .ref o), (1, .int 57)]) hx hb dX5_layMinors_129 hl (k := 3) rfl (by decide) (by decide) rfl (fun ls hl => ?_)
  refine lv_goto (tgt := 60) hx hb dX5_layMinors_132 (by decide) ?_
  refine lv_iload hx hb dX5_layMinors_60 (lv_at hl 0 rfl) ?_
  refine lv_bipush (v := 6) hx hb dX5_layMinors_62 (by decide) ?_
  refine lv_icmp_ge (tgt := 135) hx hb dX5_layMinors_64 (by decide) (fun h => absurd h (by decide)) (fun _ => ?_)
  refine lv_iload_n hx hb dX5_layMinors_67 rfl (lv_at hl 4 rfl) ?_
  refine lv_iconst (v := 5) hx hb dX5_layMinors_68 (by decide) ?_
  refine lv_icmp_ge (tgt := 135) hx hb dX5_layMinors_69 (by decide) (fun h => absurd h (by decide)) (fun _ => ?_)
  refine lv_iload_n hx hb dX5_layMinors_72 rfl (lv_at hl 6 rfl) ?_
  refine lv_iload hx hb dX5_layMinors_73 (lv_at hl 0 rfl) ?_
  refine lv_ishr hx hb dX5_layMinors_75 ?_
  refine lv_eqi (v := 3) (by decide) ?_
  refine lv_iconst (v := 1) hx hb dX5_layMinors_76 (by decide) ?_
  refine lv_iand hx hb dX5_layMinors_77 ?_
  refine lv_eqi (v := 1) (by decide) ?_
  refine lv_iconst (v := 1) hx hb dX5_layMinors_78 (by decide) ?_
  refine lv_icmp_ne (tgt := 129) hx hb dX5_layMinors_79 (by decide) (fun h => absurd (by decide) h) (fun _ => ?_)
  refine lv_aload_n hx hb dX5_layMinors_82 rfl (lv_at hl 5 rfl) ?_
  refine va_get (D := D) (ci := 5) (v := .ref mR) (C := RX5) (T := TX5) (N := 17) hx hb hts k_2 hown hK.1 hP 0 rfl rfl 5 (by decide) k_4 (fun _ h9 => h9) rfl dX5_layMinors_83 ?_
  refine lv_bipush (v := 6) hx hb dX5_layMinors_86 (by decide) ?_
  refine lv_iload_n hx hb dX5_layMinors_88 rfl (lv_at hl 4 rfl) ?_
  refine lv_imul hx hb dX5_layMinors_89 ?_
  refine lv_eqi (v := 18) (by decide) ?_
  refine lv_iload hx hb dX5_layMinors_90 (lv_at hl 0 rfl) ?_
  refine lv_iadd hx hb dX5_layMinors_92 ?_
  refine lv_eqi (v := 22) (by decide) ?_
  refine ld_l hx hb hK.1 hP 1 1 rfl rfl (ix_lit (by decide)) 22 (by decide) (v := fr 22) rfl dX5_layMinors_93 ?_
  refine lv_aload_n hx hb dX5_layMinors_94 rfl (lv_at hl 5 rfl) ?_
  refine va_get (D := D) (ci := 5) (v := .ref mD) (C := RX5) (T := TX5) (N := 17) hx hb hts k_2 hown hK.1 hP 0 rfl rfl 6 (by decide) k_1 (fun _ h9 => h9) rfl dX5_layMinors_95 ?_
  refine lv_iload_n hx hb dX5_layMinors_98 rfl (lv_at hl 6 rfl) ?_
  refine lv_iconst (v := 1) hx hb dX5_layMinors_99 (by decide) ?_
  refine lv_iload hx hb dX5_layMinors_100 (lv_at hl 0 rfl) ?_
  refine lv_ishl hx hb dX5_layMinors_102 ?_
  refine lv_eqi (v := 16) (by decide) ?_
  refine lv_isub hx hb dX5_layMinors_103 ?_
  refine lv_eqi (v := 41) (by decide) ?_
  refine ld_l hx hb hK.1 hP 2 1 rfl rfl (ix_lit (by decide)) 41 (by decide) (v := z5_mw41 fr) rfl dX5_layMinors_104 ?_
  refine lv_lmul hx hb dX5_layMinors_105 ?_
  refine lv_lstore (lv' := [(7, .long ((fr 22) * (z5_mw41 fr))), (6, .int 4), (5, .int 1), (3, .long ((0 + (-((fr 18) * (z5_mw56 fr)))) + ((fr 21) * (z5_mw49 fr)))), (2, .int 3), (0, .ref o), (1, .int 57)]) hx hb dX5_layMinors_106 hl (by decide) rfl (fun ls hl => ?_)
  refine lv_lload_n hx hb dX5_layMinors_108 rfl (lv_at hl 3 rfl) ?_
  refine lv_iload hx hb dX5_layMinors_109 (lv_at hl 2 rfl) ?_
  refine lv_iconst (v := 2) hx hb dX5_layMinors_111 (by decide) ?_
  refine lv_irem hx hb dX5_layMinors_112 (by decide) ?_
  refine lv_eqi (v := 1) (by decide) ?_
  refine lv_if_ne (tgt := 121) hx hb dX5_layMinors_113 (by decide) (fun _ => ?_) (fun h => absurd h (by decide))
  refine lv_lload hx hb dX5_layMinors_121 (lv_at hl 0 rfl) ?_
  refine lv_lneg hx hb dX5_layMinors_123 ?_
  refine lv_ladd hx hb dX5_layMinors_124 ?_
  refine lv_lstore_n (lv' := [(3, .long (((0 + (-((fr 18) * (z5_mw56 fr)))) + ((fr 21) * (z5_mw49 fr))) + (-((fr 22) * (z5_mw41 fr))))), (7, .long ((fr 22) * (z5_mw41 fr))), (6, .int 4), (5, .int 1), (2, .int 3), (0, .ref o), (1, .int 57)]) hx hb dX5_layMinors_125 rfl hl (by decide) rfl (fun ls hl => ?_)
  refine lv_iinc (v := 0) (lv' := [(5, .int 0), (3, .long (((0 + (-((fr 18) * (z5_mw56 fr)))) + ((fr 21) * (z5_mw49 fr))) + (-((fr 22) * (z5_mw41 fr))))), (7, .long ((fr 22) * (z5_mw41 fr))), (6, .int 4), (2, .int 3), (0, .ref o), (1, .int 57)]) hx hb dX5_layMinors_126 hl (k := 3) rfl (by decide) (by decide) rfl (fun ls hl => ?_)
  refine lv_iinc (v := 5) (lv' := [(6, .int 5), (5, .int 0), (3, .long (((0 + (-((fr 18) * (z5_mw56 fr)))) + ((fr 21) * (z5_mw49 fr))) + (-((fr 22) * (z5_mw41 fr))))), (7, .long ((fr 22) * (z5_mw41 fr))), (2, .int 3), (0, .ref o), (1, .int 57)]) hx hb dX5_layMinors_129 hl (k := 3) rfl (by decide) (by decide) rfl (fun ls hl => ?_)
  refine lv_goto (tgt := 60) hx hb dX5_layMinors_132 (by decide) ?_
  refine lv_iload hx hb dX5_layMinors_60 (lv_at hl 0 rfl) ?_
  refine lv_bipush (v := 6) hx hb dX5_layMinors_62 (by decide) ?_
  refine lv_icmp_ge (tgt := 135) hx hb dX5_layMinors_64 (by decide) (fun h => absurd h (by decide)) (fun _ => ?_)
  refine lv_iload_n hx hb dX5_layMinors_67 rfl (lv_at hl 4 rfl) ?_
  refine lv_iconst (v := 5) hx hb dX5_layMinors_68 (by decide) ?_
  refine lv_icmp_ge (tgt := 135) hx hb dX5_layMinors_69 (by decide) (fun h => absurd h (by decide)) (fun _ => ?_)
  refine lv_iload_n hx hb dX5_layMinors_72 rfl (lv_at hl 6 rfl) ?_
  refine lv_iload hx hb dX5_layMinors_73 (lv_at hl 0 rfl) ?_
  refine lv_ishr hx hb dX5_layMinors_75 ?_
  refine lv_eqi (v := 1) (by decide) ?_
  refine lv_iconst (v := 1) hx hb dX5_layMinors_76 (by decide) ?_
  refine lv_iand hx hb dX5_layMinors_77 ?_
  refine lv_eqi (v := 1) (by decide) ?_
  refine lv_iconst (v := 1) hx hb dX5_layMinors_78 (by decide) ?_
  refine lv_icmp_ne (tgt := 129) hx hb dX5_layMinors_79 (by decide) (fun h => absurd (by decide) h) (fun _ => ?_)
  refine lv_aload_n hx hb dX5_layMinors_82 rfl (lv_at hl 5 rfl) ?_
  refine va_get (D := D) (ci := 5) (v := .ref mR) (C := RX5) (T := TX5) (N := 17) hx hb hts k_2 hown hK.1 hP 0 rfl rfl 5 (by decide) k_4 (fun _ h9 => h9) rfl dX5_layMinors_83 ?_
  refine lv_bipush (v := 6) hx hb dX5_layMinors_86 (by decide) ?_
  refine lv_iload_n hx hb dX5_layMinors_88 rfl (lv_at hl 4 rfl) ?_
  refine lv_imul hx hb dX5_layMinors_89 ?_
  refine lv_eqi (v := 18) (by decide) ?_
  refine lv_iload hx hb dX5_layMinors_90 (lv_at hl 0 rfl) ?_
  refine lv_iadd hx hb dX5_layMinors_92 ?_
  refine lv_eqi (v := 23) (by decide) ?_
  refine ld_l hx hb hK.1 hP 1 1 rfl rfl (ix_lit (by decide)) 23 (by decide) (v := fr 23) rfl dX5_layMinors_93 ?_
  refine lv_aload_n hx hb dX5_layMinors_94 rfl (lv_at hl 5 rfl) ?_
  refine va_get (D := D) (ci := 5) (v := .ref mD) (C := RX5) (T := TX5) (N := 17) hx hb hts k_2 hown hK.1 hP 0 rfl rfl 6 (by decide) k_1 (fun _ h9 => h9) rfl dX5_layMinors_95 ?_
  refine lv_iload_n hx hb dX5_layMinors_98 rfl (lv_at hl 6 rfl) ?_
  refine lv_iconst (v := 1) hx hb dX5_layMinors_99 (by decide) ?_
  refine lv_iload hx hb dX5_layMinors_100 (lv_at hl 0 rfl) ?_
  refine lv_ishl hx hb dX5_layMinors_102 ?_
  refine lv_eqi (v := 32) (by decide) ?_
  refine lv_isub hx hb dX5_layMinors_103 ?_
  refine lv_eqi (v := 25) (by decide) ?_
  refine ld_l hx hb hK.1 hP 2 1 rfl rfl (ix_lit (by decide)) 25 (by decide) (v := z5_mw25 fr) rfl dX5_layMinors_104 ?_
  refine lv_lmul hx hb dX5_layMinors_105 ?_
  refine lv_lstore (lv' := [(7, .long ((fr 23) * (z5_mw25 fr))), (6, .int 5), (5, .int 0), (3, .long (((0 + (-((fr 18) * (z5_mw56 fr)))) + ((fr 21) * (z5_mw49 fr))) + (-((fr 22) * (z5_mw41 fr))))), (2, .int 3), (0, .ref o), (1, .int 57)]) hx hb dX5_layMinors_106 hl (by decide) rfl (fun ls hl => ?_)
  refine lv_lload_n hx hb dX5_layMinors_108 rfl (lv_at hl 3 rfl) ?_
  refine lv_iload hx hb dX5_layMinors_109 (lv_at hl 2 rfl) ?_
  refine lv_iconst (v := 2) hx hb dX5_layMinors_111 (by decide) ?_
  refine lv_irem hx hb dX5_layMinors_112 (by decide) ?_
  refine lv_eqi (v := 0) (by decide) ?_
  refine lv_if_ne (tgt := 121) hx hb dX5_layMinors_113 (by decide) (fun h => absurd (by decide) h) (fun _ => ?_)
  refine lv_lload hx hb dX5_layMinors_116 (lv_at hl 0 rfl) ?_
  refine lv_goto (tgt := 124) hx hb dX5_layMinors_118 (by decide) ?_
  refine lv_ladd hx hb dX5_layMinors_124 ?_
  refine lv_lstore_n (lv' := [(3, .long ((((0 + (-((fr 18) * (z5_mw56 fr)))) + ((fr 21) * (z5_mw49 fr))) + (-((fr 22) * (z5_mw41 fr)))) + ((fr 23) * (z5_mw25 fr)))), (7, .long ((fr 23) * (z5_mw25 fr))), (6, .int 5), (5, .int 0), (2, .int 3), (0, .ref o), (1, .int 57)]) hx hb dX5_layMinors_125 rfl hl (by decide) rfl (fun ls hl => ?_)
  refine lv_iinc (v := (-1)) (lv' := [(5, .int (-1)), (3, .long ((((0 + (-((fr 18) * (z5_mw56 fr)))) + ((fr 21) * (z5_mw49 fr))) + (-((fr 22) * (z5_mw41 fr)))) + ((fr 23) * (z5_mw25 fr)))), (7, .long ((fr 23) * (z5_mw25 fr))), (6, .int 5), (2, .int 3), (0, .ref o), (1, .int 57)]) hx hb dX5_layMinors_126 hl (k := 3) rfl (by decide) (by decide) rfl (fun ls hl => ?_)
  refine lv_iinc (v := 6) (lv' := [(6, .int 6), (5, .int (-1)), (3, .long ((((0 + (-((fr 18) * (z5_mw56 fr)))) + ((fr 21) * (z5_mw49 fr))) + (-((fr 22) * (z5_mw41 fr)))) + ((fr 23) * (z5_mw25 fr)))), (7, .long ((fr 23) * (z5_mw25 fr))), (2, .int 3), (0, .ref o), (1, .int 57)]) hx hb dX5_layMinors_129 hl (k := 3) rfl (by decide) (by decide) rfl (fun ls hl => ?_)
  refine lv_goto (tgt := 60) hx hb dX5_layMinors_132 (by decide) ?_
  refine lv_iload hx hb dX5_layMinors_60 (lv_at hl 0 rfl) ?_
  refine lv_bipush (v := 6) hx hb dX5_layMinors_62 (by decide) ?_
  refine lv_icmp_ge (tgt := 135) hx hb dX5_layMinors_64 (by decide) (fun _ => ?_) (fun h => absurd (by decide) h)
  refine lv_aload_n hx hb dX5_layMinors_135 rfl (lv_at hl 5 rfl) ?_
  refine va_get (D := D) (ci := 5) (v := .ref mD) (C := RX5) (T := TX5) (N := 17) hx hb hts k_2 hown hK.1 hP 0 rfl rfl 6 (by decide) k_1 (fun _ h9 => h9) rfl dX5_layMinors_136 ?_
  refine lv_iload_n hx hb dX5_layMinors_139 rfl (lv_at hl 6 rfl) ?_
  refine lv_lload_n hx hb dX5_layMinors_140 rfl (lv_at hl 2 rfl) ?_
  refine st_l hx hb hK.1 hP hD hS 2 1 rfl rfl (ix_lit (by decide)) 57 (by decide) dX5_layMinors_141 (fun H locs hP hD hS => ?_)
  have hP : va_P D vwCl [kM o mP mL mC mN mF mR mD mV mX mA mK cm mT pm mU mH mI, kJ mR cJ 30 fr, kJ mD cJ 64 (vp_updL (z5_mm57 fr fd) 57 ((((0 + (-((fr 18) * (z5_mw56 fr)))) + ((fr 21) * (z5_mw49 fr))) + (-((fr 22) * (z5_mw41 fr)))) + ((fr 23) * (z5_mw25 fr))))] H := hP
  have hD : va_D A [kM o mP mL mC mN mF mR mD mV mX mA mK cm mT pm mU mH mI, kJ mR cJ 30 fr, kJ mD cJ 64 (vp_updL (z5_mm57 fr fd) 57 ((((0 + (-((fr 18) * (z5_mw56 fr)))) + ((fr 21) * (z5_mw49 fr))) + (-((fr 22) * (z5_mw41 fr)))) + ((fr 23) * (z5_mw25 fr))))] := hD
  have hP : va_P D vwCl [kM o mP mL mC mN mF mR mD mV mX mA mK cm mT pm mU mH mI, kJ mR cJ 30 fr, kJ mD cJ 64 (z5_mm58 fr fd)] H := hP
  have hD : va_D A [kM o mP mL mC mN mF mR mD mV mX mA mK cm mT pm mU mH mI, kJ mR cJ 30 fr, kJ mD cJ 64 (z5_mm58 fr fd)] := hD
  refine lv_iinc (v := 58) (lv' := [(1, .int 58), (6, .int 6), (5, .int (-1)), (3, .long ((((0 + (-((fr 18) * (z5_mw56 fr)))) + ((fr 21) * (z5_mw49 fr))) + (-((fr 22) * (z5_mw41 fr)))) + ((fr 23) * (z5_mw25 fr)))), (7, .long ((fr 23) * (z5_mw25 fr))), (2, .int 3), (0, .ref o)]) hx hb dX5_layMinors_142 hl (k := 6) rfl (by decide) (by decide) rfl (fun ls hl => ?_)
  refine lv_goto (tgt := 9) hx hb dX5_layMinors_145 (by decide) ?_
  exact sg_X5_layMinors_58 hx hb hr hml hown hts hlk hK hA hP hD hS ls (lv_sub hl [6, 0] rfl)
set_option maxHeartbeats 4000000 in
set_option maxRecDepth 100000 in
theorem sg_X5_layMinors_56 {l : Launch} {D : va_G} {cI cJ : ClassId} {pG : Program} {eG : Env} {sG : State} {mG : MethodId} {below : List Frame} {meth : Method} {cG : Code} {A : Nat → Prop} {H : Heap} {locs : List Loc} {o : Nat} {mP : Nat} {mL : Nat} {mC : Nat} {mN : Nat} {mF : Nat} {mR : Nat} {mD : Nat} {mV : Nat} {mX : Nat} {mA : Nat} {mK : Nat} {mT : Nat} {mU : Nat} {mH : Nat} {mI : Nat} {cm : Int32} {pm : Int32} {fr : Nat → Int64} {fd : Nat → Int64} (hx : pG.tables.exec = Jvm.exec) (hb : cG.code = cX5_layMinors) (hr : meth.sig.returnType = none) (hml : cG.maxLocals = 9) (hown : sG.vm.findClass RX5 = some mG.cls) (hts : ∀ x ∈ wsX5_layMinors, x.before ([.ref o] : List Value).toArray sG = true) (hlk : meth.locks = false) (hK : gd_K D cI cJ sG) (hA : ∀ q : Nat, sG.heap.size ≤ q → A q) (hP : va_P D vwCl [kM o mP mL mC mN mF mR mD mV mX mA mK cm mT pm mU mH mI, kJ mR cJ 30 fr, kJ mD cJ 64 (z5_mm56 fr fd)] H) (hD : va_D A [kM o mP mL mC mN mF mR mD mV mX mA mK cm mT pm mU mH mI, kJ mR cJ 30 fr, kJ mD cJ 64 (z5_mm56 fr fd)]) (hS : va_S A sG.heap H locs) (ls : Array Slot) (hl : lv_has ls 9 [(0, .ref o), (1, .int 56)]) : W pG l eG (headSpec wsX5_layMinors ({ frames := 0, cells := 0, slots := 0, locals := 0 })).room sG mG ([.ref o] : List Value).toArray below meth cG H locs 0 0 (MQ below ((qe_v (fun _ : Unit => True) (fun uu => [kM o mP mL mC mN mF mR mD mV mX mA mK cm mT pm mU mH mI, kJ mR cJ 30 fr, kJ mD cJ 64 (z5_layMinors_f2 fr fd)])) D A) ([.ref o] : List Value).toArray sG 0 0 A) (F0 mG 9 ls []) := by
  have k_1 := hts (.fieldLink RX5 29 "ConicRowsModel" "minors" "[J") (by decide +kernel)
  have k_2 : ∀ w ∈ wsX50, w ∈ wsX5_layMinors := by decide +kernel
  have k_3 := hts (.constant RX5 122 (-1000001)) (by decide +kernel)
  have k_4 := hts (.fieldLink RX5 26 "ConicRowsModel" "rows" "[J") (by decide +kernel)
  refine lv_iload_n hx hb dX5_layMinors_9 rfl (lv_at hl 1 rfl) ?_
  refine lv_bipush (v := 64) hx hb dX5_layMinors_10 (by decide) ?_
  refine lv_icmp_ge (tgt := 148) hx hb dX5_layMinors_12 (by decide) (fun h => absurd h (by decide)) (fun _ => ?_)
  refine lv_ldc hx hb hown k_3 dX5_layMinors_15 ?_
  refine lv_istore_n (lv' := [(2, .int (-1000001)), (0, .ref o), (1, .int 56)]) hx hb dX5_layMinors_17 rfl hl (by decide) rfl (fun ls hl => ?_)
  refine lv_iconst (v := 0) hx hb dX5_layMinors_18 (by decide) ?_
  refine lv_istore_n (lv' := [(3, .int 0), (2, .int (-1000001)), (0, .ref o), (1, .int 56)]) hx hb dX5_layMinors_19 rfl hl (by decide) rfl (fun ls hl => ?_)
  refine lv_iload_n hx hb dX5_layMinors_20 rfl (lv_at hl 0 rfl) ?_
  refine lv_bipush (v := 6) hx hb dX5_layMinors_21 (by decide) ?_
  refine lv_icmp_ge (tgt := 52) hx hb dX5_layMinors_23 (by decide) (fun h => absurd h (by decide)) (fun _ => ?_)
  refine lv_iload_n hx hb dX5_layMinors_26 rfl (lv_at hl 1 rfl) ?_
  refine lv_ldc hx hb hown k_3 dX5_layMinors_27 ?_
  refine lv_icmp_ne (tgt := 36) hx hb dX5_layMinors_29 (by decide) (fun h => absurd (by decide) h) (fun _ => ?_)
  refine lv_iconst (v := (-1)) hx hb dX5_layMinors_32 (by decide) ?_
  refine lv_goto (tgt := 37) hx hb dX5_layMinors_33 (by decide) ?_
  refine lv_istore_n (lv' := [(2, .int (-1)), (3, .int 0), (0, .ref o), (1, .int 56)]) hx hb dX5_layMinors_37 rfl hl (by decide) rfl (fun ls hl => ?_)
  refine lv_iload_n hx hb dX5_layMinors_38 rfl (lv_at hl 0 rfl) ?_
  refine lv_iload_n hx hb dX5_layMinors_39 rfl (lv_at hl 3 rfl) ?_
  refine lv_iload_n hx hb dX5_layMinors_40 rfl (lv_at hl 1 rfl) ?_
  refine lv_ishr hx hb dX5_layMinors_41 ?_
  refine lv_eqi (v := 56) (by decide) ?_
  refine lv_iconst (v := 1) hx hb dX5_layMinors_42 (by decide) ?_
  refine lv_iand hx hb dX5_layMinors_43 ?_
  refine lv_eqi (v := 0) (by decide) ?_
  refine lv_iadd hx hb dX5_layMinors_44 ?_
  refine lv_eqi (v := (-1)) (by decide) ?_
  refine lv_istore_n (lv' := [(2, .int (-1)), (3, .int 0), (0, .ref o), (1, .int 56)]) hx hb dX5_layMinors_45 rfl hl (by decide) rfl (fun ls hl => ?_)
  refine lv_iinc (v := 1) (lv' := [(3, .int 1), (2, .int (-1)), (0, .ref o), (1, .int 56)]) hx hb dX5_layMinors_46 hl (k := 1) rfl (by decide) (by decide) rfl (fun ls hl => ?_)
  refine lv_goto (tgt := 20) hx hb dX5_layMinors_49 (by decide) ?_
  refine lv_iload_n hx hb dX5_layMinors_20 rfl (lv_at hl 0 rfl) ?_
  refine lv_bipush (v := 6) hx hb dX5_layMinors_21 (by decide) ?_
  refine lv_icmp_ge (tgt := 52) hx hb dX5_layMinors_23 (by decide) (fun h => absurd h (by decide)) (fun _ => ?_)
  refine lv_iload_n hx hb dX5_layMinors_26 rfl (lv_at hl 1 rfl) ?_
  refine lv_ldc hx hb hown k_3 dX5_layMinors_27 ?_
  refine lv_icmp_ne (tgt := 36) hx hb dX5_layMinors_29 (by decide) (fun _ => ?_) (fun h => absurd h (by decide))
  refine lv_iload_n hx hb dX5_layMinors_36 rfl (lv_at hl 1 rfl) ?_
  refine lv_istore_n (lv' := [(2, .int (-1)), (3, .int 1), (0, .ref o), (1, .int 56)]) hx hb dX5_layMinors_37 rfl hl (by decide) rfl (fun ls hl => ?_)
  refine lv_iload_n hx hb dX5_layMinors_38 rfl (lv_at hl 0 rfl) ?_
  refine lv_iload_n hx hb dX5_layMinors_39 rfl (lv_at hl 3 rfl) ?_
  refine lv_iload_n hx hb dX5_layMinors_40 rfl (lv_at hl 1 rfl) ?_
  refine lv_ishr hx hb dX5_layMinors_41 ?_
  refine lv_eqi (v := 28) (by decide) ?_
  refine lv_iconst (v := 1) hx hb dX5_layMinors_42 (by decide) ?_
  refine lv_iand hx hb dX5_layMinors_43 ?_
  refine lv_eqi (v := 0) (by decide) ?_
  refine lv_iadd hx hb dX5_layMinors_44 ?_
  refine lv_eqi (v := (-1)) (by decide) ?_
  refine lv_istore_n (lv' := [(2, .int (-1)), (3, .int 1), (0, .ref o), (1, .int 56)]) hx hb dX5_layMinors_45 rfl hl (by decide) rfl (fun ls hl => ?_)
  refine lv_iinc (v := 2) (lv' := [(3, .int 2), (2, .int (-1)), (0, .ref o), (1, .int 56)]) hx hb dX5_layMinors_46 hl (k := 1) rfl (by decide) (by decide) rfl (fun ls hl => ?_)
  refine lv_goto (tgt := 20) hx hb dX5_layMinors_49 (by decide) ?_
  refine lv_iload_n hx hb dX5_layMinors_20 rfl (lv_at hl 0 rfl) ?_
  refine lv_bipush (v := 6) hx hb dX5_layMinors_21 (by decide) ?_
  refine lv_icmp_ge (tgt := 52) hx hb dX5_layMinors_23 (by decide) (fun h => absurd h (by decide)) (fun _ => ?_)
  refine lv_iload_n hx hb dX5_layMinors_26 rfl (lv_at hl 1 rfl) ?_
  refine lv_ldc hx hb hown k_3 dX5_layMinors_27 ?_
  refine lv_icmp_ne (tgt := 36) hx hb dX5_layMinors_29 (by decide) (fun _ => ?_) (fun h => absurd h (by decide))
  refine lv_iload_n hx hb dX5_layMinors_36 rfl (lv_at hl 1 rfl) ?_
  refine lv_istore_n (lv' := [(2, .int (-1)), (3, .int 2), (0, .ref o), (1, .int 56)]) hx hb dX5_layMinors_37 rfl hl (by decide) rfl (fun ls hl => ?_)
  refine lv_iload_n hx hb dX5_layMinors_38 rfl (lv_at hl 0 rfl) ?_
  refine lv_iload_n hx hb dX5_layMinors_39 rfl (lv_at hl 3 rfl) ?_
  refine lv_iload_n hx hb dX5_layMinors_40 rfl (lv_at hl 1 rfl) ?_
  refine lv_ishr hx hb dX5_layMinors_41 ?_
  refine lv_eqi (v := 14) (by decide) ?_
  refine lv_iconst (v := 1) hx hb dX5_layMinors_42 (by decide) ?_
  refine lv_iand hx hb dX5_layMinors_43 ?_
  refine lv_eqi (v := 0) (by decide) ?_
  refine lv_iadd hx hb dX5_layMinors_44 ?_
  refine lv_eqi (v := (-1)) (by decide) ?_
  refine lv_istore_n (lv' := [(2, .int (-1)), (3, .int 2), (0, .ref o), (1, .int 56)]) hx hb dX5_layMinors_45 rfl hl (by decide) rfl (fun ls hl => ?_)
  refine lv_iinc (v := 3) (lv' := [(3, .int 3), (2, .int (-1)), (0, .ref o), (1, .int 56)]) hx hb dX5_layMinors_46 hl (k := 1) rfl (by decide) (by decide) rfl (fun ls hl => ?_)
  refine lv_goto (tgt := 20) hx hb dX5_layMinors_49 (by decide) ?_
  refine lv_iload_n hx hb dX5_layMinors_20 rfl (lv_at hl 0 rfl) ?_
  refine lv_bipush (v := 6) hx hb dX5_layMinors_21 (by decide) ?_
  refine lv_icmp_ge (tgt := 52) hx hb dX5_layMinors_23 (by decide) (fun h => absurd h (by decide)) (fun _ => ?_)
  refine lv_iload_n hx hb dX5_layMinors_26 rfl (lv_at hl 1 rfl) ?_
  refine lv_ldc hx hb hown k_3 dX5_layMinors_27 ?_
  refine lv_icmp_ne (tgt := 36) hx hb dX5_layMinors_29 (by decide) (fun _ => ?_) (fun h => absurd h (by decide))
  refine lv_iload_n hx hb dX5_layMinors_36 rfl (lv_at hl 1 rfl) ?_
  refine lv_istore_n (lv' := [(2, .int (-1)), (3, .int 3), (0, .ref o), (1, .int 56)]) hx hb dX5_layMinors_37 rfl hl (by decide) rfl (fun ls hl => ?_)
  refine lv_iload_n hx hb dX5_layMinors_38 rfl (lv_at hl 0 rfl) ?_
  refine lv_iload_n hx hb dX5_layMinors_39 rfl (lv_at hl 3 rfl) ?_
  refine lv_iload_n hx hb dX5_layMinors_40 rfl (lv_at hl 1 rfl) ?_
  refine lv_ishr hx hb dX5_layMinors_41 ?_
  refine lv_eqi (v := 7) (by decide) ?_
  refine lv_iconst (v := 1) hx hb dX5_layMinors_42 (by decide) ?_
  refine lv_iand hx hb dX5_layMinors_43 ?_
  refine lv_eqi (v := 1) (by decide) ?_
  refine lv_iadd hx hb dX5_layMinors_44 ?_
  refine lv_eqi (v := 0) (by decide) ?_
  refine lv_istore_n (lv' := [(2, .int 0), (3, .int 3), (0, .ref o), (1, .int 56)]) hx hb dX5_layMinors_45 rfl hl (by decide) rfl (fun ls hl => ?_)
  refine lv_iinc (v := 4) (lv' := [(3, .int 4), (2, .int 0), (0, .ref o), (1, .int 56)]) hx hb dX5_layMinors_46 hl (k := 1) rfl (by decide) (by decide) rfl (fun ls hl => ?_)
  refine lv_goto (tgt := 20) hx hb dX5_layMinors_49 (by decide) ?_
  refine lv_iload_n hx hb dX5_layMinors_20 rfl (lv_at hl 0 rfl) ?_
  refine lv_bipush (v := 6) hx hb dX5_layMinors_21 (by decide) ?_
  refine lv_icmp_ge (tgt := 52) hx hb dX5_layMinors_23 (by decide) (fun h => absurd h (by decide)) (fun _ => ?_)
  refine lv_iload_n hx hb dX5_layMinors_26 rfl (lv_at hl 1 rfl) ?_
  refine lv_ldc hx hb hown k_3 dX5_layMinors_27 ?_
  refine lv_icmp_ne (tgt := 36) hx hb dX5_layMinors_29 (by decide) (fun _ => ?_) (fun h => absurd h (by decide))
  refine lv_iload_n hx hb dX5_layMinors_36 rfl (lv_at hl 1 rfl) ?_
  refine lv_istore_n (lv' := [(2, .int 0), (3, .int 4), (0, .ref o), (1, .int 56)]) hx hb dX5_layMinors_37 rfl hl (by decide) rfl (fun ls hl => ?_)
  refine lv_iload_n hx hb dX5_layMinors_38 rfl (lv_at hl 0 rfl) ?_
  refine lv_iload_n hx hb dX5_layMinors_39 rfl (lv_at hl 3 rfl) ?_
  refine lv_iload_n hx hb dX5_layMinors_40 rfl (lv_at hl 1 rfl) ?_
  refine lv_ishr hx hb dX5_layMinors_41 ?_
  refine lv_eqi (v := 3) (by decide) ?_
  refine lv_iconst (v := 1) hx hb dX5_layMinors_42 (by decide) ?_
  refine lv_iand hx hb dX5_layMinors_43 ?_
  refine lv_eqi (v := 1) (by decide) ?_
  refine lv_iadd hx hb dX5_layMinors_44 ?_
  refine lv_eqi (v := 1) (by decide) ?_
  refine lv_istore_n (lv' := [(2, .int 1), (3, .int 4), (0, .ref o), (1, .int 56)]) hx hb dX5_layMinors_45 rfl hl (by decide) rfl (fun ls hl => ?_)
  refine lv_iinc (v := 5) (lv' := [(3, .int 5), (2, .int 1), (0, .ref o), (1, .int 56)]) hx hb dX5_layMinors_46 hl (k := 1) rfl (by decide) (by decide) rfl (fun ls hl => ?_)
  refine lv_goto (tgt := 20) hx hb dX5_layMinors_49 (by decide) ?_
  refine lv_iload_n hx hb dX5_layMinors_20 rfl (lv_at hl 0 rfl) ?_
  refine lv_bipush (v := 6) hx hb dX5_layMinors_21 (by decide) ?_
  refine lv_icmp_ge (tgt := 52) hx hb dX5_layMinors_23 (by decide) (fun h => absurd h (by decide)) (fun _ => ?_)
  refine lv_iload_n hx hb dX5_layMinors_26 rfl (lv_at hl 1 rfl) ?_
  refine lv_ldc hx hb hown k_3 dX5_layMinors_27 ?_
  refine lv_icmp_ne (tgt := 36) hx hb dX5_layMinors_29 (by decide) (fun _ => ?_) (fun h => absurd h (by decide))
  refine lv_iload_n hx hb dX5_layMinors_36 rfl (lv_at hl 1 rfl) ?_
  refine lv_istore_n (lv' := [(2, .int 1), (3, .int 5), (0, .ref o), (1, .int 56)]) hx hb dX5_layMinors_37 rfl hl (by decide) rfl (fun ls hl => ?_)
  refine lv_iload_n hx hb dX5_layMinors_38 rfl (lv_at hl 0 rfl) ?_
  refine lv_iload_n hx hb dX5_layMinors_39 rfl (lv_at hl 3 rfl) ?_
  refine lv_iload_n hx hb dX5_layMinors_40 rfl (lv_at hl 1 rfl) ?_
  refine lv_ishr hx hb dX5_layMinors_41 ?_
  refine lv_eqi (v := 1) (by decide) ?_
  refine lv_iconst (v := 1) hx hb dX5_layMinors_42 (by decide) ?_
  refine lv_iand hx hb dX5_layMinors_43 ?_
  refine lv_eqi (v := 1) (by decide) ?_
  refine lv_iadd hx hb dX5_layMinors_44 ?_
  refine lv_eqi (v := 2) (by decide) ?_
  refine lv_istore_n (lv' := [(2, .int 2), (3, .int 5), (0, .ref o), (1, .int 56)]) hx hb dX5_layMinors_45 rfl hl (by decide) rfl (fun ls hl => ?_)
  refine lv_iinc (v := 6) (lv' := [(3, .int 6), (2, .int 2), (0, .ref o), (1, .int 56)]) hx hb dX5_layMinors_46 hl (k := 1) rfl (by decide) (by decide) rfl (fun ls hl => ?_)
  refine lv_goto (tgt := 20) hx hb dX5_layMinors_49 (by decide) ?_
  refine lv_iload_n hx hb dX5_layMinors_20 rfl (lv_at hl 0 rfl) ?_
  refine lv_bipush (v := 6) hx hb dX5_layMinors_21 (by decide) ?_
  refine lv_icmp_ge (tgt := 52) hx hb dX5_layMinors_23 (by decide) (fun _ => ?_) (fun h => absurd (by decide) h)
  refine lv_lconst (v := 0) hx hb dX5_layMinors_52 (by decide) ?_
  refine lv_lstore_n (lv' := [(3, .long 0), (2, .int 2), (0, .ref o), (1, .int 56)]) hx hb dX5_layMinors_53 rfl hl (by decide) rfl (fun ls hl => ?_)
  refine lv_iload_n hx hb dX5_layMinors_54 rfl (lv_at hl 1 rfl) ?_
  refine lv_istore (lv' := [(5, .int 2), (3, .long 0), (2, .int 2), (0, .ref o), (1, .int 56)]) hx hb dX5_layMinors_55 hl (by decide) rfl (fun ls hl => ?_)
  refine lv_iconst (v := 0) hx hb dX5_layMinors_57 (by decide) ?_
  refine lv_istore (lv' := [(6, .int 0), (5, .int 2), (3, .long 0), (2, .int 2), (0, .ref o), (1, .int 56)]) hx hb dX5_layMinors_58 hl (by decide) rfl (fun ls hl => ?_)
  refine lv_iload hx hb dX5_layMinors_60 (lv_at hl 0 rfl) ?_
  refine lv_bipush (v := 6) hx hb dX5_layMinors_62 (by decide) ?_
  refine lv_icmp_ge (tgt := 135) hx hb dX5_layMinors_64 (by decide) (fun h => absurd h (by decide)) (fun _ => ?_)
  refine lv_iload_n hx hb dX5_layMinors_67 rfl (lv_at hl 3 rfl) ?_
  refine lv_iconst (v := 5) hx hb dX5_layMinors_68 (by decide) ?_
  refine lv_icmp_ge (tgt := 135) hx hb dX5_layMinors_69 (by decide) (fun h => absurd h (by decide)) (fun _ => ?_)
  refine lv_iload_n hx hb dX5_layMinors_72 rfl (lv_at hl 5 rfl) ?_
  refine lv_iload hx hb dX5_layMinors_73 (lv_at hl 0 rfl) ?_
  refine lv_ishr hx hb dX5_layMinors_75 ?_
  refine lv_eqi (v := 56) (by decide) ?_
  refine lv_iconst (v := 1) hx hb dX5_layMinors_76 (by decide) ?_
  refine lv_iand hx hb dX5_layMinors_77 ?_
  refine lv_eqi (v := 0) (by decide) ?_
  refine lv_iconst (v := 1) hx hb dX5_layMinors_78 (by decide) ?_
  refine lv_icmp_ne (tgt := 129) hx hb dX5_layMinors_79 (by decide) (fun _ => ?_) (fun h => absurd h (by decide))
  refine lv_iinc (v := 1) (lv' := [(6, .int 1), (5, .int 2), (3, .long 0), (2, .int 2), (0, .ref o), (1, .int 56)]) hx hb dX5_layMinors_129 hl (k := 0) rfl (by decide) (by decide) rfl (fun ls hl => ?_)
  refine lv_goto (tgt := 60) hx hb dX5_layMinors_132 (by decide) ?_
  refine lv_iload hx hb dX5_layMinors_60 (lv_at hl 0 rfl) ?_
  refine lv_bipush (v := 6) hx hb dX5_layMinors_62 (by decide) ?_
  refine lv_icmp_ge (tgt := 135) hx hb dX5_layMinors_64 (by decide) (fun h => absurd h (by decide)) (fun _ => ?_)
  refine lv_iload_n hx hb dX5_layMinors_67 rfl (lv_at hl 3 rfl) ?_
  refine lv_iconst (v := 5) hx hb dX5_layMinors_68 (by decide) ?_
  refine lv_icmp_ge (tgt := 135) hx hb dX5_layMinors_69 (by decide) (fun h => absurd h (by decide)) (fun _ => ?_)
  refine lv_iload_n hx hb dX5_layMinors_72 rfl (lv_at hl 5 rfl) ?_
  refine lv_iload hx hb dX5_layMinors_73 (lv_at hl 0 rfl) ?_
  refine lv_ishr hx hb dX5_layMinors_75 ?_
  refine lv_eqi (v := 28) (by decide) ?_
  refine lv_iconst (v := 1) hx hb dX5_layMinors_76 (by decide) ?_
  refine lv_iand hx hb dX5_layMinors_77 ?_
  refine lv_eqi (v := 0) (by decide) ?_
  refine lv_iconst (v := 1) hx hb dX5_layMinors_78 (by decide) ?_
  refine lv_icmp_ne (tgt := 129) hx hb dX5_layMinors_79 (by decide) (fun _ => ?_) (fun h => absurd h (by decide))
  refine lv_iinc (v := 2) (lv' := [(6, .int 2), (5, .int 2), (3, .long 0), (2, .int 2), (0, .ref o), (1, .int 56)]) hx hb dX5_layMinors_129 hl (k := 0) rfl (by decide) (by decide) rfl (fun ls hl => ?_)
  refine lv_goto (tgt := 60) hx hb dX5_layMinors_132 (by decide) ?_
  refine lv_iload hx hb dX5_layMinors_60 (lv_at hl 0 rfl) ?_
  refine lv_bipush (v := 6) hx hb dX5_layMinors_62 (by decide) ?_
  refine lv_icmp_ge (tgt := 135) hx hb dX5_layMinors_64 (by decide) (fun h => absurd h (by decide)) (fun _ => ?_)
  refine lv_iload_n hx hb dX5_layMinors_67 rfl (lv_at hl 3 rfl) ?_
  refine lv_iconst (v := 5) hx hb dX5_layMinors_68 (by decide) ?_
  refine lv_icmp_ge (tgt := 135) hx hb dX5_layMinors_69 (by decide) (fun h => absurd h (by decide)) (fun _ => ?_)
  refine lv_iload_n hx hb dX5_layMinors_72 rfl (lv_at hl 5 rfl) ?_
  refine lv_iload hx hb dX5_layMinors_73 (lv_at hl 0 rfl) ?_
  refine lv_ishr hx hb dX5_layMinors_75 ?_
  refine lv_eqi (v := 14) (by decide) ?_
  refine lv_iconst (v := 1) hx hb dX5_layMinors_76 (by decide) ?_
  refine lv_iand hx hb dX5_layMinors_77 ?_
  refine lv_eqi (v := 0) (by decide) ?_
  refine lv_iconst (v := 1) hx hb dX5_layMinors_78 (by decide) ?_
  refine lv_icmp_ne (tgt := 129) hx hb dX5_layMinors_79 (by decide) (fun _ => ?_) (fun h => absurd h (by decide))
  refine lv_iinc (v := 3) (lv' := [(6, .int 3), (5, .int 2), (3, .long 0), (2, .int 2), (0, .ref o), (1, .int 56)]) hx hb dX5_layMinors_129 hl (k := 0) rfl (by decide) (by decide) rfl (fun ls hl => ?_)
  refine lv_goto (tgt := 60) hx hb dX5_layMinors_132 (by decide) ?_
  refine lv_iload hx hb dX5_layMinors_60 (lv_at hl 0 rfl) ?_
  refine lv_bipush (v := 6) hx hb dX5_layMinors_62 (by decide) ?_
  refine lv_icmp_ge (tgt := 135) hx hb dX5_layMinors_64 (by decide) (fun h => absurd h (by decide)) (fun _ => ?_)
  refine lv_iload_n hx hb dX5_layMinors_67 rfl (lv_at hl 3 rfl) ?_
  refine lv_iconst (v := 5) hx hb dX5_layMinors_68 (by decide) ?_
  refine lv_icmp_ge (tgt := 135) hx hb dX5_layMinors_69 (by decide) (fun h => absurd h (by decide)) (fun _ => ?_)
  refine lv_iload_n hx hb dX5_layMinors_72 rfl (lv_at hl 5 rfl) ?_
  refine lv_iload hx hb dX5_layMinors_73 (lv_at hl 0 rfl) ?_
  refine lv_ishr hx hb dX5_layMinors_75 ?_
  refine lv_eqi (v := 7) (by decide) ?_
  refine lv_iconst (v := 1) hx hb dX5_layMinors_76 (by decide) ?_
  refine lv_iand hx hb dX5_layMinors_77 ?_
  refine lv_eqi (v := 1) (by decide) ?_
  refine lv_iconst (v := 1) hx hb dX5_layMinors_78 (by decide) ?_
  refine lv_icmp_ne (tgt := 129) hx hb dX5_layMinors_79 (by decide) (fun h => absurd (by decide) h) (fun _ => ?_)
  refine lv_aload_n hx hb dX5_layMinors_82 rfl (lv_at hl 4 rfl) ?_
  refine va_get (D := D) (ci := 5) (v := .ref mR) (C := RX5) (T := TX5) (N := 17) hx hb hts k_2 hown hK.1 hP 0 rfl rfl 5 (by decide) k_4 (fun _ h9 => h9) rfl dX5_layMinors_83 ?_
  refine lv_bipush (v := 6) hx hb dX5_layMinors_86 (by decide) ?_
  refine lv_iload_n hx hb dX5_layMinors_88 rfl (lv_at hl 3 rfl) ?_
  refine lv_imul hx hb dX5_layMinors_89 ?_
  refine lv_eqi (v := 12) (by decide) ?_
  refine lv_iload hx hb dX5_layMinors_90 (lv_at hl 0 rfl) ?_
  refine lv_iadd hx hb dX5_layMinors_92 ?_
  refine lv_eqi (v := 15) (by decide) ?_
  refine ld_l hx hb hK.1 hP 1 1 rfl rfl (ix_lit (by decide)) 15 (by decide) (v := fr 15) rfl dX5_layMinors_93 ?_
  refine lv_aload_n hx hb dX5_layMinors_94 rfl (lv_at hl 4 rfl) ?_
  refine va_get (D := D) (ci := 5) (v := .ref mD) (C := RX5) (T := TX5) (N := 17) hx hb hts k_2 hown hK.1 hP 0 rfl rfl 6 (by decide) k_1 (fun _ h9 => h9) rfl dX5_layMinors_95 ?_
  refine lv_iload_n hx hb dX5_layMinors_98 rfl (lv_at hl 5 rfl) ?_
  refine lv_iconst (v := 1) hx hb dX5_layMinors_99 (by decide) ?_
  refine lv_iload hx hb dX5_layMinors_100 (lv_at hl 0 rfl) ?_
  refine lv_ishl hx hb dX5_layMinors_102 ?_
  refine lv_eqi (v := 8) (by decide) ?_
  refine lv_isub hx hb dX5_layMinors_103 ?_
  refine lv_eqi (v := 48) (by decide) ?_
  refine ld_l hx hb hK.1 hP 2 1 rfl rfl (ix_lit (by decide)) 48 (by decide) (v := z5_mw48 fr) rfl dX5_layMinors_104 ?_
  refine lv_lmul hx hb dX5_layMinors_105 ?_
  refine lv_lstore (lv' := [(7, .long ((fr 15) * (z5_mw48 fr))), (6, .int 3), (5, .int 2), (3, .long 0), (2, .int 2), (0, .ref o), (1, .int 56)]) hx hb dX5_layMinors_106 hl (by decide) rfl (fun ls hl => ?_)
  refine lv_lload_n hx hb dX5_layMinors_108 rfl (lv_at hl 3 rfl) ?_
  refine lv_iload hx hb dX5_layMinors_109 (lv_at hl 2 rfl) ?_
  refine lv_iconst (v := 2) hx hb dX5_layMinors_111 (by decide) ?_
  refine lv_irem hx hb dX5_layMinors_112 (by decide) ?_
  refine lv_eqi (v := 0) (by decide) ?_
  refine lv_if_ne (tgt := 121) hx hb dX5_layMinors_113 (by decide) (fun h => absurd (by decide) h) (fun _ => ?_)
  refine lv_lload hx hb dX5_layMinors_116 (lv_at hl 0 rfl) ?_
  refine lv_goto (tgt := 124) hx hb dX5_layMinors_118 (by decide) ?_
  refine lv_ladd hx hb dX5_layMinors_124 ?_
  refine lv_lstore_n (lv' := [(3, .long (0 + ((fr 15) * (z5_mw48 fr)))), (7, .long ((fr 15) * (z5_mw48 fr))), (6, .int 3), (5, .int 2), (2, .int 2), (0, .ref o), (1, .int 56)]) hx hb dX5_layMinors_125 rfl hl (by decide) rfl (fun ls hl => ?_)
  refine lv_iinc (v := 1) (lv' := [(5, .int 1), (3, .long (0 + ((fr 15) * (z5_mw48 fr)))), (7, .long ((fr 15) * (z5_mw48 fr))), (6, .int 3), (2, .int 2), (0, .ref o), (1, .int 56)]) hx hb dX5_layMinors_126 hl (k := 3) rfl (by decide) (by decide) rfl (fun ls hl => ?_)
  refine lv_iinc (v := 4) (lv' := [(6, .int 4), (5, .int 1), (3, .long (0 + ((fr 15) * (z5_mw48 fr)))), (7, .long ((fr 15) * (z5_mw48 fr))), (2, .int 2), (0, .ref o), (1, .int 56)]) hx hb dX5_layMinors_129 hl (k := 3) rfl (by decide) (by decide) rfl (fun ls hl => ?_)
  refine lv_goto (tgt := 60) hx hb dX5_layMinors_132 (by decide) ?_
  refine lv_iload hx hb dX5_layMinors_60 (lv_at hl 0 rfl) ?_
  refine lv_bipush (v := 6) hx hb dX5_layMinors_62 (by decide) ?_
  refine lv_icmp_ge (tgt := 135) hx hb dX5_layMinors_64 (by decide) (fun h => absurd h (by decide)) (fun _ => ?_)
  refine lv_iload_n hx hb dX5_layMinors_67 rfl (lv_at hl 4 rfl) ?_
  refine lv_iconst (v := 5) hx hb dX5_layMinors_68 (by decide) ?_
  refine lv_icmp_ge (tgt := 135) hx hb dX5_layMinors_69 (by decide) (fun h => absurd h (by decide)) (fun _ => ?_)
  refine lv_iload_n hx hb dX5_layMinors_72 rfl (lv_at hl 6 rfl) ?_
  refine lv_iload hx hb dX5_layMinors_73 (lv_at hl 0 rfl) ?_
  refine lv_ishr hx hb dX5_layMinors_75 ?_
  refine lv_eqi (v := 3) (by decide) ?_
  refine lv_iconst (v := 1) hx hb dX5_layMinors_76 (by decide) ?_
  refine lv_iand hx hb dX5_layMinors_77 ?_
  refine lv_eqi (v := 1) (by decide) ?_
  refine lv_iconst (v := 1) hx hb dX5_layMinors_78 (by decide) ?_
  refine lv_icmp_ne (tgt := 129) hx hb dX5_layMinors_79 (by decide) (fun h => absurd (by decide) h) (fun _ => ?_)
  refine lv_aload_n hx hb dX5_layMinors_82 rfl (lv_at hl 5 rfl) ?_
  refine va_get (D := D) (ci := 5) (v := .ref mR) (C := RX5) (T := TX5) (N := 17) hx hb hts k_2 hown hK.1 hP 0 rfl rfl 5 (by decide) k_4 (fun _ h9 => h9) rfl dX5_layMinors_83 ?_
  refine lv_bipush (v := 6) hx hb dX5_layMinors_86 (by decide) ?_
  refine lv_iload_n hx hb dX5_layMinors_88 rfl (lv_at hl 4 rfl) ?_
  refine lv_imul hx hb dX5_layMinors_89 ?_
  refine lv_eqi (v := 12) (by decide) ?_
  refine lv_iload hx hb dX5_layMinors_90 (lv_at hl 0 rfl) ?_
  refine lv_iadd hx hb dX5_layMinors_92 ?_
  refine lv_eqi (v := 16) (by decide) ?_
  refine ld_l hx hb hK.1 hP 1 1 rfl rfl (ix_lit (by decide)) 16 (by decide) (v := fr 16) rfl dX5_layMinors_93 ?_
  refine lv_aload_n hx hb dX5_layMinors_94 rfl (lv_at hl 5 rfl) ?_
  refine va_get (D := D) (ci := 5) (v := .ref mD) (C := RX5) (T := TX5) (N := 17) hx hb hts k_2 hown hK.1 hP 0 rfl rfl 6 (by decide) k_1 (fun _ h9 => h9) rfl dX5_layMinors_95 ?_
  refine lv_iload_n hx hb dX5_layMinors_98 rfl (lv_at hl 6 rfl) ?_
  refine lv_iconst (v := 1) hx hb dX5_layMinors_99 (by decide) ?_
  refine lv_iload hx hb dX5_layMinors_100 (lv_at hl 0 rfl) ?_
  refine lv_ishl hx hb dX5_layMinors_102 ?_
  refine lv_eqi (v := 16) (by decide) ?_
  refine lv_isub hx hb dX5_layMinors_103 ?_
  refine lv_eqi (v := 40) (by decide) ?_
  refine ld_l hx hb hK.1 hP 2 1 rfl rfl (ix_lit (by decide)) 40 (by decide) (v := z5_mw40 fr) rfl dX5_layMinors_104 ?_
  refine lv_lmul hx hb dX5_layMinors_105 ?_
  refine lv_lstore (lv' := [(7, .long ((fr 16) * (z5_mw40 fr))), (6, .int 4), (5, .int 1), (3, .long (0 + ((fr 15) * (z5_mw48 fr)))), (2, .int 2), (0, .ref o), (1, .int 56)]) hx hb dX5_layMinors_106 hl (by decide) rfl (fun ls hl => ?_)
  refine lv_lload_n hx hb dX5_layMinors_108 rfl (lv_at hl 3 rfl) ?_
  refine lv_iload hx hb dX5_layMinors_109 (lv_at hl 2 rfl) ?_
  refine lv_iconst (v := 2) hx hb dX5_layMinors_111 (by decide) ?_
  refine lv_irem hx hb dX5_layMinors_112 (by decide) ?_
  refine lv_eqi (v := 1) (by decide) ?_
  refine lv_if_ne (tgt := 121) hx hb dX5_layMinors_113 (by decide) (fun _ => ?_) (fun h => absurd h (by decide))
  refine lv_lload hx hb dX5_layMinors_121 (lv_at hl 0 rfl) ?_
  refine lv_lneg hx hb dX5_layMinors_123 ?_
  refine lv_ladd hx hb dX5_layMinors_124 ?_
  refine lv_lstore_n (lv' := [(3, .long ((0 + ((fr 15) * (z5_mw48 fr))) + (-((fr 16) * (z5_mw40 fr))))), (7, .long ((fr 16) * (z5_mw40 fr))), (6, .int 4), (5, .int 1), (2, .int 2), (0, .ref o), (1, .int 56)]) hx hb dX5_layMinors_125 rfl hl (by decide) rfl (fun ls hl => ?_)
  refine lv_iinc (v := 0) (lv' := [(5, .int 0), (3, .long ((0 + ((fr 15) * (z5_mw48 fr))) + (-((fr 16) * (z5_mw40 fr))))), (7, .long ((fr 16) * (z5_mw40 fr))), (6, .int 4), (2, .int 2), (0, .ref o), (1, .int 56)]) hx hb dX5_layMinors_126 hl (k := 3) rfl (by decide) (by decide) rfl (fun ls hl => ?_)
  refine lv_iinc (v := 5) (lv' := [(6, .int 5), (5, .int 0), (3, .long ((0 + ((fr 15) * (z5_mw48 fr))) + (-((fr 16) * (z5_mw40 fr))))), (7, .long ((fr 16) * (z5_mw40 fr))), (2, .int 2), (0, .ref o), (1, .int 56)]) hx hb dX5_layMinors_129 hl (k := 3) rfl (by decide) (by decide) rfl (fun ls hl => ?_)
  refine lv_goto (tgt := 60) hx hb dX5_layMinors_132 (by decide) ?_
  refine lv_iload hx hb dX5_layMinors_60 (lv_at hl 0 rfl) ?_
  refine lv_bipush (v := 6) hx hb dX5_layMinors_62 (by decide) ?_
  refine lv_icmp_ge (tgt := 135) hx hb dX5_layMinors_64 (by decide) (fun h => absurd h (by decide)) (fun _ => ?_)
  refine lv_iload_n hx hb dX5_layMinors_67 rfl (lv_at hl 4 rfl) ?_
  refine lv_iconst (v := 5) hx hb dX5_layMinors_68 (by decide) ?_
  refine lv_icmp_ge (tgt := 135) hx hb dX5_layMinors_69 (by decide) (fun h => absurd h (by decide)) (fun _ => ?_)
  refine lv_iload_n hx hb dX5_layMinors_72 rfl (lv_at hl 6 rfl) ?_
  refine lv_iload hx hb dX5_layMinors_73 (lv_at hl 0 rfl) ?_
  refine lv_ishr hx hb dX5_layMinors_75 ?_
  refine lv_eqi (v := 1) (by decide) ?_
  refine lv_iconst (v := 1) hx hb dX5_layMinors_76 (by decide) ?_
  refine lv_iand hx hb dX5_layMinors_77 ?_
  refine lv_eqi (v := 1) (by decide) ?_
  refine lv_iconst (v := 1) hx hb dX5_layMinors_78 (by decide) ?_
  refine lv_icmp_ne (tgt := 129) hx hb dX5_layMinors_79 (by decide) (fun h => absurd (by decide) h) (fun _ => ?_)
  refine lv_aload_n hx hb dX5_layMinors_82 rfl (lv_at hl 5 rfl) ?_
  refine va_get (D := D) (ci := 5) (v := .ref mR) (C := RX5) (T := TX5) (N := 17) hx hb hts k_2 hown hK.1 hP 0 rfl rfl 5 (by decide) k_4 (fun _ h9 => h9) rfl dX5_layMinors_83 ?_
  refine lv_bipush (v := 6) hx hb dX5_layMinors_86 (by decide) ?_
  refine lv_iload_n hx hb dX5_layMinors_88 rfl (lv_at hl 4 rfl) ?_
  refine lv_imul hx hb dX5_layMinors_89 ?_
  refine lv_eqi (v := 12) (by decide) ?_
  refine lv_iload hx hb dX5_layMinors_90 (lv_at hl 0 rfl) ?_
  refine lv_iadd hx hb dX5_layMinors_92 ?_
  refine lv_eqi (v := 17) (by decide) ?_
  refine ld_l hx hb hK.1 hP 1 1 rfl rfl (ix_lit (by decide)) 17 (by decide) (v := fr 17) rfl dX5_layMinors_93 ?_
  refine lv_aload_n hx hb dX5_layMinors_94 rfl (lv_at hl 5 rfl) ?_
  refine va_get (D := D) (ci := 5) (v := .ref mD) (C := RX5) (T := TX5) (N := 17) hx hb hts k_2 hown hK.1 hP 0 rfl rfl 6 (by decide) k_1 (fun _ h9 => h9) rfl dX5_layMinors_95 ?_
  refine lv_iload_n hx hb dX5_layMinors_98 rfl (lv_at hl 6 rfl) ?_
  refine lv_iconst (v := 1) hx hb dX5_layMinors_99 (by decide) ?_
  refine lv_iload hx hb dX5_layMinors_100 (lv_at hl 0 rfl) ?_
  refine lv_ishl hx hb dX5_layMinors_102 ?_
  refine lv_eqi (v := 32) (by decide) ?_
  refine lv_isub hx hb dX5_layMinors_103 ?_
  refine lv_eqi (v := 24) (by decide) ?_
  refine ld_l hx hb hK.1 hP 2 1 rfl rfl (ix_lit (by decide)) 24 (by decide) (v := z5_mw24 fr) rfl dX5_layMinors_104 ?_
  refine lv_lmul hx hb dX5_layMinors_105 ?_
  refine lv_lstore (lv' := [(7, .long ((fr 17) * (z5_mw24 fr))), (6, .int 5), (5, .int 0), (3, .long ((0 + ((fr 15) * (z5_mw48 fr))) + (-((fr 16) * (z5_mw40 fr))))), (2, .int 2), (0, .ref o), (1, .int 56)]) hx hb dX5_layMinors_106 hl (by decide) rfl (fun ls hl => ?_)
  refine lv_lload_n hx hb dX5_layMinors_108 rfl (lv_at hl 3 rfl) ?_
  refine lv_iload hx hb dX5_layMinors_109 (lv_at hl 2 rfl) ?_
  refine lv_iconst (v := 2) hx hb dX5_layMinors_111 (by decide) ?_
  refine lv_irem hx hb dX5_layMinors_112 (by decide) ?_
  refine lv_eqi (v := 0) (by decide) ?_
  refine lv_if_ne (tgt := 121) hx hb dX5_layMinors_113 (by decide) (fun h => absurd (by decide) h) (fun _ => ?_)
  refine lv_lload hx hb dX5_layMinors_116 (lv_at hl 0 rfl) ?_
  refine lv_goto (tgt := 124) hx hb dX5_layMinors_118 (by decide) ?_
  refine lv_ladd hx hb dX5_layMinors_124 ?_
  refine lv_lstore_n (lv' := [(3, .long (((0 + ((fr 15) * (z5_mw48 fr))) + (-((fr 16) * (z5_mw40 fr)))) + ((fr 17) * (z5_mw24 fr)))), (7, .long ((fr 17) * (z5_mw24 fr))), (6, .int 5), (5, .int 0), (2, .int 2), (0, .ref o), (1, .int 56)]) hx hb dX5_layMinors_125 rfl hl (by decide) rfl (fun ls hl => ?_)
  refine lv_iinc (v := (-1)) (lv' := [(5, .int (-1)), (3, .long (((0 + ((fr 15) * (z5_mw48 fr))) + (-((fr 16) * (z5_mw40 fr)))) + ((fr 17) * (z5_mw24 fr)))), (7, .long ((fr 17) * (z5_mw24 fr))), (6, .int 5), (2, .int 2), (0, .ref o), (1, .int 56)]) hx hb dX5_layMinors_126 hl (k := 3) rfl (by decide) (by decide) rfl (fun ls hl => ?_)
  refine lv_iinc (v := 6) (lv' := [(6, .int 6), (5, .int (-1)), (3, .long (((0 + ((fr 15) * (z5_mw48 fr))) + (-((fr 16) * (z5_mw40 fr)))) + ((fr 17) * (z5_mw24 fr)))), (7, .long ((fr 17) * (z5_mw24 fr))), (2, .int 2), (0, .ref o), (1, .int 56)]) hx hb dX5_layMinors_129 hl (k := 3) rfl (by decide) (by decide) rfl (fun ls hl => ?_)
  refine lv_goto (tgt := 60) hx hb dX5_layMinors_132 (by decide) ?_
  refine lv_iload hx hb dX5_layMinors_60 (lv_at hl 0 rfl) ?_
  refine lv_bipush (v := 6) hx hb dX5_layMinors_62 (by decide) ?_
  refine lv_icmp_ge (tgt := 135) hx hb dX5_layMinors_64 (by decide) (fun _ => ?_) (fun h => absurd (by decide) h)
  refine lv_aload_n hx hb dX5_layMinors_135 rfl (lv_at hl 5 rfl) ?_
  refine va_get (D := D) (ci := 5) (v := .ref mD) (C := RX5) (T := TX5) (N := 17) hx hb hts k_2 hown hK.1 hP 0 rfl rfl 6 (by decide) k_1 (fun _ h9 => h9) rfl dX5_layMinors_136 ?_
  refine lv_iload_n hx hb dX5_layMinors_139 rfl (lv_at hl 6 rfl) ?_
  refine lv_lload_n hx hb dX5_layMinors_140 rfl (lv_at hl 2 rfl) ?_
  refine st_l hx hb hK.1 hP hD hS 2 1 rfl rfl (ix_lit (by decide)) 56 (by decide) dX5_layMinors_141 (fun H locs hP hD hS => ?_)
  have hP : va_P D vwCl [kM o mP mL mC mN mF mR mD mV mX mA mK cm mT pm mU mH mI, kJ mR cJ 30 fr, kJ mD cJ 64 (vp_updL (z5_mm56 fr fd) 56 (((0 + ((fr 15) * (z5_mw48 fr))) + (-((fr 16) * (z5_mw40 fr)))) + ((fr 17) * (z5_mw24 fr))))] H := hP
  have hD : va_D A [kM o mP mL mC mN mF mR mD mV mX mA mK cm mT pm mU mH mI, kJ mR cJ 30 fr, kJ mD cJ 64 (vp_updL (z5_mm56 fr fd) 56 (((0 + ((fr 15) * (z5_mw48 fr))) + (-((fr 16) * (z5_mw40 fr)))) + ((fr 17) * (z5_mw24 fr))))] := hD
  have hP : va_P D vwCl [kM o mP mL mC mN mF mR mD mV mX mA mK cm mT pm mU mH mI, kJ mR cJ 30 fr, kJ mD cJ 64 (z5_mm57 fr fd)] H := hP
  have hD : va_D A [kM o mP mL mC mN mF mR mD mV mX mA mK cm mT pm mU mH mI, kJ mR cJ 30 fr, kJ mD cJ 64 (z5_mm57 fr fd)] := hD
  refine lv_iinc (v := 57) (lv' := [(1, .int 57), (6, .int 6), (5, .int (-1)), (3, .long (((0 + ((fr 15) * (z5_mw48 fr))) + (-((fr 16) * (z5_mw40 fr)))) + ((fr 17) * (z5_mw24 fr)))), (7, .long ((fr 17) * (z5_mw24 fr))), (2, .int 2), (0, .ref o)]) hx hb dX5_layMinors_142 hl (k := 6) rfl (by decide) (by decide) rfl (fun ls hl => ?_)
  refine lv_goto (tgt := 9) hx hb dX5_layMinors_145 (by decide) ?_
  exact sg_X5_layMinors_57 hx hb hr hml hown hts hlk hK hA hP hD hS ls (lv_sub hl [6, 0] rfl)
