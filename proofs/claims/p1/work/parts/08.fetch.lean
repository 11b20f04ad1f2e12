/-! the listing as a whole -/
def rfetch (m pc : Nat) : Option rI := bif Nat.blt m 125 then (bif Nat.blt m 62 then (bif Nat.blt m 31 then (bif Nat.blt m 15 then (bif Nat.blt m 7 then (bif Nat.blt m 3 then (bif Nat.blt m 1 then (bif Nat.beq m 0 then tb0 pc else none) else (bif Nat.blt m 2 then (bif Nat.beq m 1 then tb1 pc else none) else (bif Nat.beq m 2 then tb2 pc else none))) else (bif Nat.blt m 5 then (bif Nat.blt m 4 then (bif Nat.beq m 3 then tb3 pc else none) else (bif Nat.beq m 4 then tb4 pc else none)) else (bif Nat.blt m 6 then (bif Nat.beq m 5 then tb5 pc else none) else (bif Nat.beq m 6 then tb6 pc else none)))) else (bif Nat.blt m 11 then (bif Nat.blt m 9 then (bif Nat.blt m 8 then (bif Nat.beq m 7 then tb7 pc else none) else (bif Nat.beq m 8 then tb8 pc else none)) else (bif Nat.blt m 10 then (bif Nat.beq m 9 then tb9 pc else none) else (bif Nat.beq m 10 then tb10 pc else none))) else (bif Nat.blt m 13 then (bif Nat.blt m 12 then (bif Nat.beq m 11 then tb11 pc else none) else (bif Nat.beq m 12 then tb12 pc else none)) else (bif Nat.blt m 14 then (bif Nat.beq m 13 then tb13 pc else none) else (bif Nat.beq m 14 then tb14 pc else none))))) else (bif Nat.blt m 23 then (bif Nat.blt m 19 then (bif Nat.blt m 17 then (bif Nat.blt m 16 then (bif Nat.beq m 15 then tb15 pc else none) else (bif Nat.beq m 16 then tb16 pc else none)) else (bif Nat.blt m 18 then (bif Nat.beq m 17 then tb17 pc else none) else (bif Nat.beq m 18 then tb18 pc else none))) else (bif Nat.blt m 21 then (bif Nat.blt m 20 then (bif Nat.beq m 19 then tb19 pc else none) else (bif Nat.beq m 20 then tb20 pc else none)) else (bif Nat.blt m 22 then (bif Nat.beq m 21 then tb21 pc else none) else (bif Nat.beq m 22 then tb22 pc else none)))) else (bif Nat.blt m 27 then (bif Nat.blt m 25 then (bif Nat.blt m 24 then (bif Nat.beq m 23 then tb23 pc else none) else (bif Nat.beq m 24 then tb24 pc else none)) else (bif Nat.blt m 26 then (bif Nat.beq m 25 then tb25 pc else none) else (bif Nat.beq m 26 then tb26 pc else none))) else (bif Nat.blt m 29 then (bif Nat.blt m 28 then (bif Nat.beq m 27 then tb27 pc else none) else (bif Nat.beq m 28 then tb28 pc else none)) else (bif Nat.blt m 30 then (bif Nat.beq m 29 then tb29 pc else none) else (bif Nat.beq m 30 then tb30 pc else none)))))) else (bif Nat.blt m 46 then (bif Nat.blt m 38 then (bif Nat.blt m 34 then (bif Nat.blt m 32 then (bif Nat.beq m 31 then tb31 pc else none) else (bif Nat.blt m 33 then (bif Nat.beq m 32 then tb32 pc else none) else (bif Nat.beq m 33 then tb33 pc else none))) else (bif Nat.blt m 36 then (bif Nat.blt m 35 then (bif Nat.beq m 34 then tb34 pc else none) else (bif Nat.beq m 35 then tb35 pc else none)) else (bif Nat.blt m 37 then (bif Nat.beq m 36 then tb36 pc else none) else (bif Nat.beq m 37 then tb37 pc else none)))) else (bif Nat.blt m 42 then (bif Nat.blt m 40 then (bif Nat.blt m 39 then (bif Nat.beq m 38 then tb38 pc else none) else (bif Nat.beq m 39 then tb39 pc else none)) else (bif Nat.blt m 41 then (bif Nat.beq m 40 then tb40 pc else none) else (bif Nat.beq m 41 then tb41 pc else none))) else (bif Nat.blt m 44 then (bif Nat.blt m 43 then (bif Nat.beq m 42 then tb42 pc else none) else (bif Nat.beq m 43 then tb43 pc else none)) else (bif Nat.blt m 45 then (bif Nat.beq m 44 then tb44 pc else none) else (bif Nat.beq m 45 then tb45 pc else none))))) else (bif Nat.blt m 54 then (bif Nat.blt m 50 then (bif Nat.blt m 48 then (bif Nat.blt m 47 then (bif Nat.beq m 46 then tb46 pc else none) else (bif Nat.beq m 47 then tb47 pc else none)) else (bif Nat.blt m 49 then (bif Nat.beq m 48 then tb48 pc else none) else (bif Nat.beq m 49 then tb49 pc else none))) else (bif Nat.blt m 52 then (bif Nat.blt m 51 then (bif Nat.beq m 50 then tb50 pc else none) else (bif Nat.beq m 51 then tb51 pc else none)) else (bif Nat.blt m 53 then (bif Nat.beq m 52 then tb52 pc else none) else (bif Nat.beq m 53 then tb53 pc else none)))) else (bif Nat.blt m 58 then (bif Nat.blt m 56 then (bif Nat.blt m 55 then (bif Nat.beq m 54 then tb54 pc else none) else (bif Nat.beq m 55 then tb55 pc else none)) else (bif Nat.blt m 57 then (bif Nat.beq m 56 then tb56 pc else none) else (bif Nat.beq m 57 then tb57 pc else none))) else (bif Nat.blt m 60 then (bif Nat.blt m 59 then (bif Nat.beq m 58 then tb58 pc else none) else (bif Nat.beq m 59 then tb59 pc else none)) else (bif Nat.blt m 61 then (bif Nat.beq m 60 then tb60 pc else none) else (bif Nat.beq m 61 then tb61 pc else none))))))) else (bif Nat.blt m 93 then (bif Nat.blt m 77 then (bif Nat.blt m 69 then (bif Nat.blt m 65 then (bif Nat.blt m 63 then (bif Nat.beq m 62 then tb62 pc else none) else (bif Nat.blt m 64 then (bif Nat.beq m 63 then tb63 pc else none) else (bif Nat.beq m 64 then tb64 pc else none))) else (bif Nat.blt m 67 then (bif Nat.blt m 66 then (bif Nat.beq m 65 then tb65 pc else none) else (bif Nat.beq m 66 then tb66 pc else none)) else (bif Nat.blt m 68 then (bif Nat.beq m 67 then tb67 pc else none) else (bif Nat.beq m 68 then tb68 pc else none)))) else (bif Nat.blt m 73 then (bif Nat.blt m 71 then (bif Nat.blt m 70 then (bif Nat.beq m 69 then tb69 pc else none) else (bif Nat.beq m 70 then tb70 pc else none)) else (bif Nat.blt m 72 then (bif Nat.beq m 71 then tb71 pc else none) else (bif Nat.beq m 72 then tb72 pc else none))) else (bif Nat.blt m 75 then (bif Nat.blt m 74 then (bif Nat.beq m 73 then tb73 pc else none) else (bif Nat.beq m 74 then tb74 pc else none)) else (bif Nat.blt m 76 then (bif Nat.beq m 75 then tb75 pc else none) else (bif Nat.beq m 76 then tb76 pc else none))))) else (bif Nat.blt m 85 then (bif Nat.blt m 81 then (bif Nat.blt m 79 then (bif Nat.blt m 78 then (bif Nat.beq m 77 then tb77 pc else none) else (bif Nat.beq m 78 then tb78 pc else none)) else (bif Nat.blt m 80 then (bif Nat.beq m 79 then tb79 pc else none) else (bif Nat.beq m 80 then tb80 pc else none))) else (bif Nat.blt m 83 then (bif Nat.blt m 82 then (bif Nat.beq m 81 then tb81 pc else none) else (bif Nat.beq m 82 then tb82 pc else none)) else (bif Nat.blt m 84 then (bif Nat.beq m 83 then tb83 pc else none) else (bif Nat.beq m 84 then tb84 pc else none)))) else (bif Nat.blt m 89 then (bif Nat.blt m 87 then (bif Nat.blt m 86 then (bif Nat.beq m 85 then tb85 pc else none) else (bif Nat.beq m 86 then tb86 pc else none)) else (bif Nat.blt m 88 then (bif Nat.beq m 87 then tb87 pc else none) else (bif Nat.beq m 88 then tb88 pc else none))) else (bif Nat.blt m 91 then (bif Nat.blt m 90 then (bif Nat.beq m 89 then tb89 pc else none) else (bif Nat.beq m 90 then tb90 pc else none)) else (bif Nat.blt m 92 then (bif Nat.beq m 91 then tb91 pc else none) else (bif Nat.beq m 92 then tb92 pc else none)))))) else (bif Nat.blt m 109 then (bif Nat.blt m 101 then (bif Nat.blt m 97 then (bif Nat.blt m 95 then (bif Nat.blt m 94 then (bif Nat.beq m 93 then tb93 pc else none) else (bif Nat.beq m 94 then tb94 pc else none)) else (bif Nat.blt m 96 then (bif Nat.beq m 95 then tb95 pc else none) else (bif Nat.beq m 96 then tb96 pc else none))) else (bif Nat.blt m 99 then (bif Nat.blt m 98 then (bif Nat.beq m 97 then tb97 pc else none) else (bif Nat.beq m 98 then tb98 pc else none)) else (bif Nat.blt m 100 then (bif Nat.beq m 99 then tb99 pc else none) else (bif Nat.beq m 100 then tb100 pc else none)))) else (bif Nat.blt m 105 then (bif Nat.blt m 103 then (bif Nat.blt m 102 then (bif Nat.beq m 101 then tb101 pc else none) else (bif Nat.beq m 102 then tb102 pc else none)) else (bif Nat.blt m 104 then (bif Nat.beq m 103 then tb103 pc else none) else (bif Nat.beq m 104 then tb104 pc else none))) else (bif Nat.blt m 107 then (bif Nat.blt m 106 then (bif Nat.beq m 105 then tb105 pc else none) else (bif Nat.beq m 106 then tb106 pc else none)) else (bif Nat.blt m 108 then (bif Nat.beq m 107 then tb107 pc else none) else (bif Nat.beq m 108 then tb108 pc else none))))) else (bif Nat.blt m 117 then (bif Nat.blt m 113 then (bif Nat.blt m 111 then (bif Nat.blt m 110 then (bif Nat.beq m 109 then tb109 pc else none) else (bif Nat.beq m 110 then tb110 pc else none)) else (bif Nat.blt m 112 then (bif Nat.beq m 111 then tb111 pc else none) else (bif Nat.beq m 112 then tb112 pc else none))) else (bif Nat.blt m 115 then (bif Nat.blt m 114 then (bif Nat.beq m 113 then tb113 pc else none) else (bif Nat.beq m 114 then tb114 pc else none)) else (bif Nat.blt m 116 then (bif Nat.beq m 115 then tb115 pc else none) else (bif Nat.beq m 116 then tb116 pc else none)))) else (bif Nat.blt m 121 then (bif Nat.blt m 119 then (bif Nat.blt m 118 then (bif Nat.beq m 117 then tb117 pc else none) else (bif Nat.beq m 118 then tb118 pc else none)) else (bif Nat.blt m 120 then (bif Nat.beq m 119 then tb119 pc else none) else (bif Nat.beq m 120 then tb120 pc else none))) else (bif Nat.blt m 123 then (bif Nat.blt m 122 then (bif Nat.beq m 121 then tb121 pc else none) else (bif Nat.beq m 122 then tb122 pc else none)) else (bif Nat.blt m 124 then (bif Nat.beq m 123 then tb123 pc else none) else (bif Nat.beq m 124 then tb124 pc else none)))))))) else (bif Nat.blt m 188 then (bif Nat.blt m 156 then (bif Nat.blt m 140 then (bif Nat.blt m 132 then (bif Nat.blt m 128 then (bif Nat.blt m 126 then (bif Nat.beq m 125 then tb125 pc else none) else (bif Nat.blt m 127 then (bif Nat.beq m 126 then tb126 pc else none) else (bif Nat.beq m 127 then tb127 pc else none))) else (bif Nat.blt m 130 then (bif Nat.blt m 129 then (bif Nat.beq m 128 then tb128 pc else none) else (bif Nat.beq m 129 then tb129 pc else none)) else (bif Nat.blt m 131 then (bif Nat.beq m 130 then tb130 pc else none) else (bif Nat.beq m 131 then tb131 pc else none)))) else (bif Nat.blt m 136 then (bif Nat.blt m 134 then (bif Nat.blt m 133 then (bif Nat.beq m 132 then tb132 pc else none) else (bif Nat.beq m 133 then tb133 pc else none)) else (bif Nat.blt m 135 then (bif Nat.beq m 134 then tb134 pc else none) else (bif Nat.beq m 135 then tb135 pc else none))) else (bif Nat.blt m 138 then (bif Nat.blt m 137 then (bif Nat.beq m 136 then tb136 pc else none) else (bif Nat.beq m 137 then tb137 pc else none)) else (bif Nat.blt m 139 then (bif Nat.beq m 138 then tb138 pc else none) else (bif Nat.beq m 139 then tb139 pc else none))))) else (bif Nat.blt m 148 then (bif Nat.blt m 144 then (bif Nat.blt m 142 then (bif Nat.blt m 141 then (bif Nat.beq m 140 then tb140 pc else none) else (bif Nat.beq m 141 then tb141 pc else none)) else (bif Nat.blt m 143 then (bif Nat.beq m 142 then tb142 pc else none) else (bif Nat.beq m 143 then tb143 pc else none))) else (bif Nat.blt m 146 then (bif Nat.blt m 145 then (bif Nat.beq m 144 then tb144 pc else none) else (bif Nat.beq m 145 then tb145 pc else none)) else (bif Nat.blt m 147 then (bif Nat.beq m 146 then tb146 pc else none) else (bif Nat.beq m 147 then tb147 pc else none)))) else (bif Nat.blt m 152 then (bif Nat.blt m 150 then (bif Nat.blt m 149 then (bif Nat.beq m 148 then tb148 pc else none) else (bif Nat.beq m 149 then tb149 pc else none)) else (bif Nat.blt m 151 then (bif Nat.beq m 150 then tb150 pc else none) else (bif Nat.beq m 151 then tb151 pc else none))) else (bif Nat.blt m 154 then (bif Nat.blt m 153 then (bif Nat.beq m 152 then tb152 pc else none) else (bif Nat.beq m 153 then tb153 pc else none)) else (bif Nat.blt m 155 then (bif Nat.beq m 154 then tb154 pc else none) else (bif Nat.beq m 155 then tb155 pc else none)))))) else (bif Nat.blt m 172 then (bif Nat.blt m 164 then (bif Nat.blt m 160 then (bif Nat.blt m 158 then (bif Nat.blt m 157 then (bif Nat.beq m 156 then tb156 pc else none) else (bif Nat.beq m 157 then tb157 pc else none)) else (bif Nat.blt m 159 then (bif Nat.beq m 158 then tb158 pc else none) else (bif Nat.beq m 159 then tb159 pc else none))) else (bif Nat.blt m 162 then (bif Nat.blt m 161 then (bif Nat.beq m 160 then tb160 pc else none) else (bif Nat.beq m 161 then tb161 pc else none)) else (bif Nat.blt m 163 then (bif Nat.beq m 162 then tb162 pc else none) else (bif Nat.beq m 163 then tb163 pc else none)))) else (bif Nat.blt m 168 then (bif Nat.blt m 166 then (bif Nat.blt m 165 then (bif Nat.beq m 164 then tb164 pc else none) else (bif Nat.beq m 165 then tb165 pc else none)) else (bif Nat.blt m 167 then (bif Nat.beq m 166 then tb166 pc else none) else (bif Nat.beq m 167 then tb167 pc else none))) else (bif Nat.blt m 170 then (bif Nat.blt m 169 then (bif Nat.beq m 168 then tb168 pc else none) else (bif Nat.beq m 169 then tb169 pc else none)) else (bif Nat.blt m 171 then (bif Nat.beq m 170 then tb170 pc else none) else (bif Nat.beq m 171 then tb171 pc else none))))) else (bif Nat.blt m 180 then (bif Nat.blt m 176 then (bif Nat.blt m 174 then (bif Nat.blt m 173 then (bif Nat.beq m 172 then tb172 pc else none) else (bif Nat.beq m 173 then tb173 pc else none)) else (bif Nat.blt m 175 then (bif Nat.beq m 174 then tb174 pc else none) else (bif Nat.beq m 175 then tb175 pc else none))) else (bif Nat.blt m 178 then (bif Nat.blt m 177 then (bif Nat.beq m 176 then tb176 pc else none) else (bif Nat.beq m 177 then tb177 pc else none)) else (bif Nat.blt m 179 then (bif Nat.beq m 178 then tb178 pc else none) else (bif Nat.beq m 179 then tb179 pc else none)))) else (bif Nat.blt m 184 then (bif Nat.blt m 182 then (bif Nat.blt m 181 then (bif Nat.beq m 180 then tb180 pc else none) else (bif Nat.beq m 181 then tb181 pc else none)) else (bif Nat.blt m 183 then (bif Nat.beq m 182 then tb182 pc else none) else (bif Nat.beq m 183 then tb183 pc else none))) else (bif Nat.blt m 186 then (bif Nat.blt m 185 then (bif Nat.beq m 184 then tb184 pc else none) else (bif Nat.beq m 185 then tb185 pc else none)) else (bif Nat.blt m 187 then (bif Nat.beq m 186 then tb186 pc else none) else (bif Nat.beq m 187 then tb187 pc else none))))))) else (bif Nat.blt m 219 then (bif Nat.blt m 203 then (bif Nat.blt m 195 then (bif Nat.blt m 191 then (bif Nat.blt m 189 then (bif Nat.beq m 188 then tb188 pc else none) else (bif Nat.blt m 190 then (bif Nat.beq m 189 then tb189 pc else none) else (bif Nat.beq m 190 then tb190 pc else none))) else (bif Nat.blt m 193 then (bif Nat.blt m 192 then (bif Nat.beq m 191 then tb191 pc else none) else (bif Nat.beq m 192 then tb192 pc else none)) else (bif Nat.blt m 194 then (bif Nat.beq m 193 then tb193 pc else none) else (bif Nat.beq m 194 then tb194 pc else none)))) else (bif Nat.blt m 199 then (bif Nat.blt m 197 then (bif Nat.blt m 196 then (bif Nat.beq m 195 then tb195 pc else none) else (bif Nat.beq m 196 then tb196 pc else none)) else (bif Nat.blt m 198 then (bif Nat.beq m 197 then tb197 pc else none) else (bif Nat.beq m 198 then tb198 pc else none))) else (bif Nat.blt m 201 then (bif Nat.blt m 200 then (bif Nat.beq m 199 then tb199 pc else none) else (bif Nat.beq m 200 then tb200 pc else none)) else (bif Nat.blt m 202 then (bif Nat.beq m 201 then tb201 pc else none) else (bif Nat.beq m 202 then tb202 pc else none))))) else (bif Nat.blt m 211 then (bif Nat.blt m 207 then (bif Nat.blt m 205 then (bif Nat.blt m 204 then (bif Nat.beq m 203 then tb203 pc else none) else (bif Nat.beq m 204 then tb204 pc else none)) else (bif Nat.blt m 206 then (bif Nat.beq m 205 then tb205 pc else none) else (bif Nat.beq m 206 then tb206 pc else none))) else (bif Nat.blt m 209 then (bif Nat.blt m 208 then (bif Nat.beq m 207 then tb207 pc else none) else (bif Nat.beq m 208 then tb208 pc else none)) else (bif Nat.blt m 210 then (bif Nat.beq m 209 then tb209 pc else none) else (bif Nat.beq m 210 then tb210 pc else none)))) else (bif Nat.blt m 215 then (bif Nat.blt m 213 then (bif Nat.blt m 212 then (bif Nat.beq m 211 then tb211 pc else none) else (bif Nat.beq m 212 then tb212 pc else none)) else (bif Nat.blt m 214 then (bif Nat.beq m 213 then tb213 pc else none) else (bif Nat.beq m 214 then tb214 pc else none))) else (bif Nat.blt m 217 then (bif Nat.blt m 216 then (bif Nat.beq m 215 then tb215 pc else none) else (bif Nat.beq m 216 then tb216 pc else none)) else (bif Nat.blt m 218 then (bif Nat.beq m 217 then tb217 pc else none) else (bif Nat.beq m 218 then tb218 pc else none)))))) else (bif Nat.blt m 235 then (bif Nat.blt m 227 then (bif Nat.blt m 223 then (bif Nat.blt m 221 then (bif Nat.blt m 220 then (bif Nat.beq m 219 then tb219 pc else none) else (bif Nat.beq m 220 then tb220 pc else none)) else (bif Nat.blt m 222 then (bif Nat.beq m 221 then tb221 pc else none) else (bif Nat.beq m 222 then tb222 pc else none))) else (bif Nat.blt m 225 then (bif Nat.blt m 224 then (bif Nat.beq m 223 then tb223 pc else none) else (bif Nat.beq m 224 then tb224 pc else none)) else (bif Nat.blt m 226 then (bif Nat.beq m 225 then tb225 pc else none) else (bif Nat.beq m 226 then tb226 pc else none)))) else (bif Nat.blt m 231 then (bif Nat.blt m 229 then (bif Nat.blt m 228 then (bif Nat.beq m 227 then tb227 pc else none) else (bif Nat.beq m 228 then tb228 pc else none)) else (bif Nat.blt m 230 then (bif Nat.beq m 229 then tb229 pc else none) else (bif Nat.beq m 230 then tb230 pc else none))) else (bif Nat.blt m 233 then (bif Nat.blt m 232 then (bif Nat.beq m 231 then tb231 pc else none) else (bif Nat.beq m 232 then tb232 pc else none)) else (bif Nat.blt m 234 then (bif Nat.beq m 233 then tb233 pc else none) else (bif Nat.beq m 234 then tb234 pc else none))))) else (bif Nat.blt m 243 then (bif Nat.blt m 239 then (bif Nat.blt m 237 then (bif Nat.blt m 236 then (bif Nat.beq m 235 then tb235 pc else none) else (bif Nat.beq m 236 then tb236 pc else none)) else (bif Nat.blt m 238 then (bif Nat.beq m 237 then tb237 pc else none) else (bif Nat.beq m 238 then tb238 pc else none))) else (bif Nat.blt m 241 then (bif Nat.blt m 240 then (bif Nat.beq m 239 then tb239 pc else none) else (bif Nat.beq m 240 then tb240 pc else none)) else (bif Nat.blt m 242 then (bif Nat.beq m 241 then tb241 pc else none) else (bif Nat.beq m 242 then tb242 pc else none)))) else (bif Nat.blt m 247 then (bif Nat.blt m 245 then (bif Nat.blt m 244 then (bif Nat.beq m 243 then tb243 pc else none) else (bif Nat.beq m 244 then tb244 pc else none)) else (bif Nat.blt m 246 then (bif Nat.beq m 245 then tb245 pc else none) else (bif Nat.beq m 246 then tb246 pc else none))) else (bif Nat.blt m 249 then (bif Nat.blt m 248 then (bif Nat.beq m 247 then tb247 pc else none) else (bif Nat.beq m 248 then tb248 pc else none)) else (bif Nat.blt m 250 then (bif Nat.beq m 249 then tb249 pc else none) else (bif Nat.beq m 250 then tb250 pc else none))))))))
set_option maxHeartbeats 4000000 in
set_option maxRecDepth 100000 in
theorem rfetch_ok {m pc : Nat} {f : rI} (h : rfetch m pc = some f) : decode (rB m) pc = .ok (f.1, f.2.1) ∧ rchk (rpool m) (rmaxl m) f.1 f.2.1 f.2.2 = true := by
  unfold rfetch at h
  rcases rcond2 h with ⟨-, h⟩ | ⟨-, h⟩
  · rcases rcond2 h with ⟨-, h⟩ | ⟨-, h⟩
    · rcases rcond2 h with ⟨-, h⟩ | ⟨-, h⟩
      · rcases rcond2 h with ⟨-, h⟩ | ⟨-, h⟩
        · rcases rcond2 h with ⟨-, h⟩ | ⟨-, h⟩
          · rcases rcond2 h with ⟨-, h⟩ | ⟨-, h⟩
            · rcases rcond2 h with ⟨-, h⟩ | ⟨-, h⟩
              · rcases rcond2 h with ⟨hm, h⟩ | ⟨-, h⟩
                · rw [Nat.eq_of_beq_eq_true hm]; exact rck_ok (tb := tr0) (fun _ => rfl) ck0 h
                · cases h
              · rcases rcond2 h with ⟨-, h⟩ | ⟨-, h⟩
                · rcases rcond2 h with ⟨hm, h⟩ | ⟨-, h⟩
                  · rw [Nat.eq_of_beq_eq_true hm]; exact rck_ok (tb := tr1) (fun _ => rfl) ck1 h
                  · cases h
                · rcases rcond2 h with ⟨hm, h⟩ | ⟨-, h⟩
                  · rw [Nat.eq_of_beq_eq_true hm]; exact rck_ok (tb := tr2) (fun _ => rfl) ck2 h
                  · cases h
            · rcases rcond2 h with ⟨-, h⟩ | ⟨-, h⟩
              · rcases rcond2 h with ⟨-, h⟩ | ⟨-, h⟩
                · rcases rcond2 h with ⟨hm, h⟩ | ⟨-, h⟩
                  · rw [Nat.eq_of_beq_eq_true hm]; exact rck_ok (tb := tr3) (fun _ => rfl) ck3 h
                  · cases h
                · rcases rcond2 h with ⟨hm, h⟩ | ⟨-, h⟩
                  · rw [Nat.eq_of_beq_eq_true hm]; exact rck_ok (tb := tr4) (fun _ => rfl) ck4 h
                  · cases h
              · rcases rcond2 h with ⟨-, h⟩ | ⟨-, h⟩
                · rcases rcond2 h with ⟨hm, h⟩ | ⟨-, h⟩
                  · rw [Nat.eq_of_beq_eq_true hm]; exact rck_ok (tb := tr5) (fun _ => rfl) ck5 h
                  · cases h
                · rcases rcond2 h with ⟨hm, h⟩ | ⟨-, h⟩
                  · rw [Nat.eq_of_beq_eq_true hm]; exact rck_ok (tb := tr6) (fun _ => rfl) ck6 h
                  · cases h
          · rcases rcond2 h with ⟨-, h⟩ | ⟨-, h⟩
            · rcases rcond2 h with ⟨-, h⟩ | ⟨-, h⟩
              · rcases rcond2 h with ⟨-, h⟩ | ⟨-, h⟩
                · rcases rcond2 h with ⟨hm, h⟩ | ⟨-, h⟩
                  · rw [Nat.eq_of_beq_eq_true hm]; exact rck_ok (tb := tr7) (fun _ => rfl) ck7 h
                  · cases h
                · rcases rcond2 h with ⟨hm, h⟩ | ⟨-, h⟩
                  · rw [Nat.eq_of_beq_eq_true hm]; exact rck_ok (tb := tr8) (fun _ => rfl) ck8 h
                  · cases h
              · rcases rcond2 h with ⟨-, h⟩ | ⟨-, h⟩
                · rcases rcond2 h with ⟨hm, h⟩ | ⟨-, h⟩
                  · rw [Nat.eq_of_beq_eq_true hm]; exact rck_ok (tb := tr9) (fun _ => rfl) ck9 h
                  · cases h
                · rcases rcond2 h with ⟨hm, h⟩ | ⟨-, h⟩
                  · rw [Nat.eq_of_beq_eq_true hm]; exact rck_ok (tb := tr10) (fun _ => rfl) ck10 h
                  · cases h
            · rcases rcond2 h with ⟨-, h⟩ | ⟨-, h⟩
              · rcases rcond2 h with ⟨-, h⟩ | ⟨-, h⟩
                · rcases rcond2 h with ⟨hm, h⟩ | ⟨-, h⟩
                  · rw [Nat.eq_of_beq_eq_true hm]; exact rck_ok (tb := tr11) (fun _ => rfl) ck11 h
                  · cases h
                · rcases rcond2 h with ⟨hm, h⟩ | ⟨-, h⟩
                  · rw [Nat.eq_of_beq_eq_true hm]; exact rck_ok (tb := tr12) (fun _ => rfl) ck12 h
                  · cases h
              · rcases rcond2 h with ⟨-, h⟩ | ⟨-, h⟩
                · rcases rcond2 h with ⟨hm, h⟩ | ⟨-, h⟩
                  · rw [Nat.eq_of_beq_eq_true hm]; exact rck_ok (tb := tr13) (fun _ => rfl) ck13 h
                  · cases h
                · rcases rcond2 h with ⟨hm, h⟩ | ⟨-, h⟩
                  · rw [Nat.eq_of_beq_eq_true hm]; exact rck_ok (tb := tr14) (fun _ => rfl) ck14 h
                  · cases h
        · rcases rcond2 h with ⟨-, h⟩ | ⟨-, h⟩
          · rcases rcond2 h with ⟨-, h⟩ | ⟨-, h⟩
            · rcases rcond2 h with ⟨-, h⟩ | ⟨-, h⟩
              · rcases rcond2 h with ⟨-, h⟩ | ⟨-, h⟩
                · rcases rcond2 h with ⟨hm, h⟩ | ⟨-, h⟩
                  · rw [Nat.eq_of_beq_eq_true hm]; exact rck_ok (tb := tr15) (fun _ => rfl) ck15 h
                  · cases h
                · rcases rcond2 h with ⟨hm, h⟩ | ⟨-, h⟩
                  · rw [Nat.eq_of_beq_eq_true hm]; exact rck_ok (tb := tr16) (fun _ => rfl) ck16 h
                  · cases h
              · rcases rcond2 h with ⟨-, h⟩ | ⟨-, h⟩
                · rcases rcond2 h with ⟨hm, h⟩ | ⟨-, h⟩
                  · rw [Nat.eq_of_beq_eq_true hm]; exact rck_ok (tb := tr17) (fun _ => rfl) ck17 h
                  · cases h
                · rcases rcond2 h with ⟨hm, h⟩ | ⟨-, h⟩
                  · rw [Nat.eq_of_beq_eq_true hm]; exact rck_ok (tb := tr18) (fun _ => rfl) ck18 h
                  · cases h
            · rcases rcond2 h with ⟨-, h⟩ | ⟨-, h⟩
              · rcases rcond2 h with ⟨-, h⟩ | ⟨-, h⟩
                · rcases rcond2 h with ⟨hm, h⟩ | ⟨-, h⟩
                  · rw [Nat.eq_of_beq_eq_true hm]; exact rck_ok (tb := tr19) (fun _ => rfl) ck19 h
                  · cases h
                · rcases rcond2 h with ⟨hm, h⟩ | ⟨-, h⟩
                  · rw [Nat.eq_of_beq_eq_true hm]; exact rck_ok (tb := tr20) (fun _ => rfl) ck20 h
                  · cases h
              · rcases rcond2 h with ⟨-, h⟩ | ⟨-, h⟩
                · rcases rcond2 h with ⟨hm, h⟩ | ⟨-, h⟩
                  · rw [Nat.eq_of_beq_eq_true hm]; exact rck_ok (tb := tr21) (fun _ => rfl) ck21 h
                  · cases h
                · rcases rcond2 h with ⟨hm, h⟩ | ⟨-, h⟩
                  · rw [Nat.eq_of_beq_eq_true hm]; exact rck_ok (tb := tr22) (fun _ => rfl) ck22 h
                  · cases h
          · rcases rcond2 h with ⟨-, h⟩ | ⟨-, h⟩
            · rcases rcond2 h with ⟨-, h⟩ | ⟨-, h⟩
              · rcases rcond2 h with ⟨-, h⟩ | ⟨-, h⟩
                · rcases rcond2 h with ⟨hm, h⟩ | ⟨-, h⟩
                  · rw [Nat.eq_of_beq_eq_true hm]; exact rck_ok (tb := tr23) (fun _ => rfl) ck23 h
                  · cases h
                · rcases rcond2 h with ⟨hm, h⟩ | ⟨-, h⟩
                  · rw [Nat.eq_of_beq_eq_true hm]; exact rck_ok (tb := tr24) (fun _ => rfl) ck24 h
                  · cases h
              · rcases rcond2 h with ⟨-, h⟩ | ⟨-, h⟩
                · rcases rcond2 h with ⟨hm, h⟩ | ⟨-, h⟩
                  · rw [Nat.eq_of_beq_eq_true hm]; exact rck_ok (tb := tr25) (fun _ => rfl) ck25 h
                  · cases h
                · rcases rcond2 h with ⟨hm, h⟩ | ⟨-, h⟩
                  · rw [Nat.eq_of_beq_eq_true hm]; exact rck_ok (tb := tr26) (fun _ => rfl) ck26 h
                  · cases h
            · rcases rcond2 h with ⟨-, h⟩ | ⟨-, h⟩
              · rcases rcond2 h with ⟨-, h⟩ | ⟨-, h⟩
                · rcases rcond2 h with ⟨hm, h⟩ | ⟨-, h⟩
                  · rw [Nat.eq_of_beq_eq_true hm]; exact rck_ok (tb := tr27) (fun _ => rfl) ck27 h
                  · cases h
                · rcases rcond2 h with ⟨hm, h⟩ | ⟨-, h⟩
                  · rw [Nat.eq_of_beq_eq_true hm]; exact rck_ok (tb := tr28) (fun _ => rfl) ck28 h
                  · cases h
              · rcases rcond2 h with ⟨-, h⟩ | ⟨-, h⟩
                · rcases rcond2 h with ⟨hm, h⟩ | ⟨-, h⟩
                  · rw [Nat.eq_of_beq_eq_true hm]; exact rck_ok (tb := tr29) (fun _ => rfl) ck29 h
                  · cases h
                · rcases rcond2 h with ⟨hm, h⟩ | ⟨-, h⟩
                  · rw [Nat.eq_of_beq_eq_true hm]; exact rck_ok (tb := tr30) (fun _ => rfl) ck30 h
                  · cases h
      · rcases rcond2 h with ⟨-, h⟩ | ⟨-, h⟩
        · rcases rcond2 h with ⟨-, h⟩ | ⟨-, h⟩
          · rcases rcond2 h with ⟨-, h⟩ | ⟨-, h⟩
            · rcases rcond2 h with ⟨-, h⟩ | ⟨-, h⟩
              · rcases rcond2 h with ⟨hm, h⟩ | ⟨-, h⟩
                · rw [Nat.eq_of_beq_eq_true hm]; exact rck_ok (tb := tr31) (fun _ => rfl) ck31 h
                · cases h
              · rcases rcond2 h with ⟨-, h⟩ | ⟨-, h⟩
                · rcases rcond2 h with ⟨hm, h⟩ | ⟨-, h⟩
                  · rw [Nat.eq_of_beq_eq_true hm]; exact rck_ok (tb := tr32) (fun _ => rfl) ck32 h
                  · cases h
                · rcases rcond2 h with ⟨hm, h⟩ | ⟨-, h⟩
                  · rw [Nat.eq_of_beq_eq_true hm]; exact rck_ok (tb := tr33) (fun _ => rfl) ck33 h
                  · cases h
            · rcases rcond2 h with ⟨-, h⟩ | ⟨-, h⟩
              · rcases rcond2 h with ⟨-, h⟩ | ⟨-, h⟩
                · rcases rcond2 h with ⟨hm, h⟩ | ⟨-, h⟩
                  · rw [Nat.eq_of_beq_eq_true hm]; exact rck_ok (tb := tr34) (fun _ => rfl) ck34 h
                  · cases h
                · rcases rcond2 h with ⟨hm, h⟩ | ⟨-, h⟩
                  · rw [Nat.eq_of_beq_eq_true hm]; exact rck_ok (tb := tr35) (fun _ => rfl) ck35 h
                  · cases h
              · rcases rcond2 h with ⟨-, h⟩ | ⟨-, h⟩
                · rcases rcond2 h with ⟨hm, h⟩ | ⟨-, h⟩
                  · rw [Nat.eq_of_beq_eq_true hm]; exact rck_ok (tb := tr36) (fun _ => rfl) ck36 h
                  · cases h
                · rcases rcond2 h with ⟨hm, h⟩ | ⟨-, h⟩
                  · rw [Nat.eq_of_beq_eq_true hm]; exact rck_ok (tb := tr37) (fun _ => rfl) ck37 h
                  · cases h
          · rcases rcond2 h with ⟨-, h⟩ | ⟨-, h⟩
            · rcases rcond2 h with ⟨-, h⟩ | ⟨-, h⟩
              · rcases rcond2 h with ⟨-, h⟩ | ⟨-, h⟩
                · rcases rcond2 h with ⟨hm, h⟩ | ⟨-, h⟩
                  · rw [Nat.eq_of_beq_eq_true hm]; exact rck_ok (tb := tr38) (fun _ => rfl) ck38 h
                  · cases h
                · rcases rcond2 h with ⟨hm, h⟩ | ⟨-, h⟩
                  · rw [Nat.eq_of_beq_eq_true hm]; exact rck_ok (tb := tr39) (fun _ => rfl) ck39 h
                  · cases h
              · rcases rcond2 h with ⟨-, h⟩ | ⟨-, h⟩
                · rcases rcond2 h with ⟨hm, h⟩ | ⟨-, h⟩
                  · rw [Nat.eq_of_beq_eq_true hm]; exact rck_ok (tb := tr40) (fun _ => rfl) ck40 h
                  · cases h
                · rcases rcond2 h with ⟨hm, h⟩ | ⟨-, h⟩
                  · rw [Nat.eq_of_beq_eq_true hm]; exact rck_ok (tb := tr41) (fun _ => rfl) ck41 h
                  · cases h
            · rcases rcond2 h with ⟨-, h⟩ | ⟨-, h⟩
              · rcases rcond2 h with ⟨-, h⟩ | ⟨-, h⟩
                · rcases rcond2 h with ⟨hm, h⟩ | ⟨-, h⟩
                  · rw [Nat.eq_of_beq_eq_true hm]; exact rck_ok (tb := tr42) (fun _ => rfl) ck42 h
                  · cases h
                · rcases rcond2 h with ⟨hm, h⟩ | ⟨-, h⟩
                  · rw [Nat.eq_of_beq_eq_true hm]; exact rck_ok (tb := tr43) (fun _ => rfl) ck43 h
                  · cases h
              · rcases rcond2 h with ⟨-, h⟩ | ⟨-, h⟩
                · rcases rcond2 h with ⟨hm, h⟩ | ⟨-, h⟩
                  · rw [Nat.eq_of_beq_eq_true hm]; exact rck_ok (tb := tr44) (fun _ => rfl) ck44 h
                  · cases h
                · rcases rcond2 h with ⟨hm, h⟩ | ⟨-, h⟩
                  · rw [Nat.eq_of_beq_eq_true hm]; exact rck_ok (tb := tr45) (fun _ => rfl) ck45 h
                  · cases h
        · rcases rcond2 h with ⟨-, h⟩ | ⟨-, h⟩
          · rcases rcond2 h with ⟨-, h⟩ | ⟨-, h⟩
            · rcases rcond2 h with ⟨-, h⟩ | ⟨-, h⟩
              · rcases rcond2 h with ⟨-, h⟩ | ⟨-, h⟩
                · rcases rcond2 h with ⟨hm, h⟩ | ⟨-, h⟩
                  · rw [Nat.eq_of_beq_eq_true hm]; exact rck_ok (tb := tr46) (fun _ => rfl) ck46 h
                  · cases h
                · rcases rcond2 h with ⟨hm, h⟩ | ⟨-, h⟩
                  · rw [Nat.eq_of_beq_eq_true hm]; exact rck_ok (tb := tr47) (fun _ => rfl) ck47 h
                  · cases h
              · rcases rcond2 h with ⟨-, h⟩ | ⟨-, h⟩
                · rcases rcond2 h with ⟨hm, h⟩ | ⟨-, h⟩
                  · rw [Nat.eq_of_beq_eq_true hm]; exact rck_ok (tb := tr48) (fun _ => rfl) ck48 h
                  · cases h
                · rcases rcond2 h with ⟨hm, h⟩ | ⟨-, h⟩
                  · rw [Nat.eq_of_beq_eq_true hm]; exact rck_ok (tb := tr49) (fun _ => rfl) ck49 h
                  · cases h
            · rcases rcond2 h with ⟨-, h⟩ | ⟨-, h⟩
              · rcases rcond2 h with ⟨-, h⟩ | ⟨-, h⟩
                · rcases rcond2 h with ⟨hm, h⟩ | ⟨-, h⟩
                  · rw [Nat.eq_of_beq_eq_true hm]; exact rck_ok (tb := tr50) (fun _ => rfl) ck50 h
                  · cases h
                · rcases rcond2 h with ⟨hm, h⟩ | ⟨-, h⟩
                  · rw [Nat.eq_of_beq_eq_true hm]; exact rck_ok (tb := tr51) (fun _ => rfl) ck51 h
                  · cases h
              · rcases rcond2 h with ⟨-, h⟩ | ⟨-, h⟩
                · rcases rcond2 h with ⟨hm, h⟩ | ⟨-, h⟩
                  · rw [Nat.eq_of_beq_eq_true hm]; exact rck_ok (tb := tr52) (fun _ => rfl) ck52 h
                  · cases h
                · rcases rcond2 h with ⟨hm, h⟩ | ⟨-, h⟩
                  · rw [Nat.eq_of_beq_eq_true hm]; exact rck_ok (tb := tr53) (fun _ => rfl) ck53 h
                  · cases h
          · rcases rcond2 h with ⟨-, h⟩ | ⟨-, h⟩
            · rcases rcond2 h with ⟨-, h⟩ | ⟨-, h⟩
              · rcases rcond2 h with ⟨-, h⟩ | ⟨-, h⟩
                · rcases rcond2 h with ⟨hm, h⟩ | ⟨-, h⟩
                  · rw [Nat.eq_of_beq_eq_true hm]; exact rck_ok (tb := tr54) (fun _ => rfl) ck54 h
                  · cases h
                · rcases rcond2 h with ⟨hm, h⟩ | ⟨-, h⟩
                  · rw [Nat.eq_of_beq_eq_true hm]; exact rck_ok (tb := tr55) (fun _ => rfl) ck55 h
                  · cases h
              · rcases rcond2 h with ⟨-, h⟩ | ⟨-, h⟩
                · rcases rcond2 h with ⟨hm, h⟩ | ⟨-, h⟩
                  · rw [Nat.eq_of_beq_eq_true hm]; exact rck_ok (tb := tr56) (fun _ => rfl) ck56 h
                  · cases h
                · rcases rcond2 h with ⟨hm, h⟩ | ⟨-, h⟩
                  · rw [Nat.eq_of_beq_eq_true hm]; exact rck_ok (tb := tr57) (fun _ => rfl) ck57 h
                  · cases h
            · rcases rcond2 h with ⟨-, h⟩ | ⟨-, h⟩
              · rcases rcond2 h with ⟨-, h⟩ | ⟨-, h⟩
                · rcases rcond2 h with ⟨hm, h⟩ | ⟨-, h⟩
                  · rw [Nat.eq_of_beq_eq_true hm]; exact rck_ok (tb := tr58) (fun _ => rfl) ck58 h
                  · cases h
                · rcases rcond2 h with ⟨hm, h⟩ | ⟨-, h⟩
                  · rw [Nat.eq_of_beq_eq_true hm]; exact rck_ok (tb := tr59) (fun _ => rfl) ck59 h
                  · cases h
              · rcases rcond2 h with ⟨-, h⟩ | ⟨-, h⟩
                · rcases rcond2 h with ⟨hm, h⟩ | ⟨-, h⟩
                  · rw [Nat.eq_of_beq_eq_true hm]; exact rck_ok (tb := tr60) (fun _ => rfl) ck60 h
                  · cases h
                · rcases rcond2 h with ⟨hm, h⟩ | ⟨-, h⟩
                  · rw [Nat.eq_of_beq_eq_true hm]; exact rck_ok (tb := tr61) (fun _ => rfl) ck61 h
                  · cases h
    · rcases rcond2 h with ⟨-, h⟩ | ⟨-, h⟩
      · rcases rcond2 h with ⟨-, h⟩ | ⟨-, h⟩
        · rcases rcond2 h with ⟨-, h⟩ | ⟨-, h⟩
          · rcases rcond2 h with ⟨-, h⟩ | ⟨-, h⟩
            · rcases rcond2 h with ⟨-, h⟩ | ⟨-, h⟩
              · rcases rcond2 h with ⟨hm, h⟩ | ⟨-, h⟩
                · rw [Nat.eq_of_beq_eq_true hm]; exact rck_ok (tb := tr62) (fun _ => rfl) ck62 h
                · cases h
              · rcases rcond2 h with ⟨-, h⟩ | ⟨-, h⟩
                · rcases rcond2 h with ⟨hm, h⟩ | ⟨-, h⟩
                  · rw [Nat.eq_of_beq_eq_true hm]; exact rck_ok (tb := tr63) (fun _ => rfl) ck63 h
                  · cases h
                · rcases rcond2 h with ⟨hm, h⟩ | ⟨-, h⟩
                  · rw [Nat.eq_of_beq_eq_true hm]; exact rck_ok (tb := tr64) (fun _ => rfl) ck64 h
                  · cases h
            · rcases rcond2 h with ⟨-, h⟩ | ⟨-, h⟩
              · rcases rcond2 h with ⟨-, h⟩ | ⟨-, h⟩
                · rcases rcond2 h with ⟨hm, h⟩ | ⟨-, h⟩
                  · rw [Nat.eq_of_beq_eq_true hm]; exact rck_ok (tb := tr65) (fun _ => rfl) ck65 h
                  · cases h
                · rcases rcond2 h with ⟨hm, h⟩ | ⟨-, h⟩
                  · rw [Nat.eq_of_beq_eq_true hm]; exact rck_ok (tb := tr66) (fun _ => rfl) ck66 h
                  · cases h
              · rcases rcond2 h with ⟨-, h⟩ | ⟨-, h⟩
                · rcases rcond2 h with ⟨hm, h⟩ | ⟨-, h⟩
                  · rw [Nat.eq_of_beq_eq_true hm]; exact rck_ok (tb := tr67) (fun _ => rfl) ck67 h
                  · cases h
                · rcases rcond2 h with ⟨hm, h⟩ | ⟨-, h⟩
                  · rw [Nat.eq_of_beq_eq_true hm]; exact rck_ok (tb := tr68) (fun _ => rfl) ck68 h
                  · cases h
          · rcases rcond2 h with ⟨-, h⟩ | ⟨-, h⟩
            · rcases rcond2 h with ⟨-, h⟩ | ⟨-, h⟩
              · rcases rcond2 h with ⟨-, h⟩ | ⟨-, h⟩
                · rcases rcond2 h with ⟨hm, h⟩ | ⟨-, h⟩
                  · rw [Nat.eq_of_beq_eq_true hm]; exact rck_ok (tb := tr69) (fun _ => rfl) ck69 h
                  · cases h
                · rcases rcond2 h with ⟨hm, h⟩ | ⟨-, h⟩
                  · rw [Nat.eq_of_beq_eq_true hm]; exact rck_ok (tb := tr70) (fun _ => rfl) ck70 h
                  · cases h
              · rcases rcond2 h with ⟨-, h⟩ | ⟨-, h⟩
                · rcases rcond2 h with ⟨hm, h⟩ | ⟨-, h⟩
                  · rw [Nat.eq_of_beq_eq_true hm]; exact rck_ok (tb := tr71) (fun _ => rfl) ck71 h
                  · cases h
                · rcases rcond2 h with ⟨hm, h⟩ | ⟨-, h⟩
                  · rw [Nat.eq_of_beq_eq_true hm]; exact rck_ok (tb := tr72) (fun _ => rfl) ck72 h
                  · cases h
            · rcases rcond2 h with ⟨-, h⟩ | ⟨-, h⟩
              · rcases rcond2 h with ⟨-, h⟩ | ⟨-, h⟩
                · rcases rcond2 h with ⟨hm, h⟩ | ⟨-, h⟩
                  · rw [Nat.eq_of_beq_eq_true hm]; exact rck_ok (tb := tr73) (fun _ => rfl) ck73 h
                  · cases h
                · rcases rcond2 h with ⟨hm, h⟩ | ⟨-, h⟩
                  · rw [Nat.eq_of_beq_eq_true hm]; exact rck_ok (tb := tr74) (fun _ => rfl) ck74 h
                  · cases h
              · rcases rcond2 h with ⟨-, h⟩ | ⟨-, h⟩
                · rcases rcond2 h with ⟨hm, h⟩ | ⟨-, h⟩
                  · rw [Nat.eq_of_beq_eq_true hm]; exact rck_ok (tb := tr75) (fun _ => rfl) ck75 h
                  · cases h
                · rcases rcond2 h with ⟨hm, h⟩ | ⟨-, h⟩
                  · rw [Nat.eq_of_beq_eq_true hm]; exact rck_ok (tb := tr76) (fun _ => rfl) ck76 h
                  · cases h
        · rcases rcond2 h with ⟨-, h⟩ | ⟨-, h⟩
          · rcases rcond2 h with ⟨-, h⟩ | ⟨-, h⟩
            · rcases rcond2 h with ⟨-, h⟩ | ⟨-, h⟩
              · rcases rcond2 h with ⟨-, h⟩ | ⟨-, h⟩
                · rcases rcond2 h with ⟨hm, h⟩ | ⟨-, h⟩
                  · rw [Nat.eq_of_beq_eq_true hm]; exact rck_ok (tb := tr77) (fun _ => rfl) ck77 h
                  · cases h
                · rcases rcond2 h with ⟨hm, h⟩ | ⟨-, h⟩
                  · rw [Nat.eq_of_beq_eq_true hm]; exact rck_ok (tb := tr78) (fun _ => rfl) ck78 h
                  · cases h
              · rcases rcond2 h with ⟨-, h⟩ | ⟨-, h⟩
                · rcases rcond2 h with ⟨hm, h⟩ | ⟨-, h⟩
                  · rw [Nat.eq_of_beq_eq_true hm]; exact rck_ok (tb := tr79) (fun _ => rfl) ck79 h
                  · cases h
                · rcases rcond2 h with ⟨hm, h⟩ | ⟨-, h⟩
                  · rw [Nat.eq_of_beq_eq_true hm]; exact rck_ok (tb := tr80) (fun _ => rfl) ck80 h
                  · cases h
            · rcases rcond2 h with ⟨-, h⟩ | ⟨-, h⟩
              · rcases rcond2 h with ⟨-, h⟩ | ⟨-, h⟩
                · rcases rcond2 h with ⟨hm, h⟩ | ⟨-, h⟩
                  · rw [Nat.eq_of_beq_eq_true hm]; exact rck_ok (tb := tr81) (fun _ => rfl) ck81 h
                  · cases h
                · rcases rcond2 h with ⟨hm, h⟩ | ⟨-, h⟩
                  · rw [Nat.eq_of_beq_eq_true hm]; exact rck_ok (tb := tr82) (fun _ => rfl) ck82 h
                  · cases h
              · rcases rcond2 h with ⟨-, h⟩ | ⟨-, h⟩
                · rcases rcond2 h with ⟨hm, h⟩ | ⟨-, h⟩
                  · rw [Nat.eq_of_beq_eq_true hm]; exact rck_ok (tb := tr83) (fun _ => rfl) ck83 h
                  · cases h
                · rcases rcond2 h with ⟨hm, h⟩ | ⟨-, h⟩
                  · rw [Nat.eq_of_beq_eq_true hm]; exact rck_ok (tb := tr84) (fun _ => rfl) ck84 h
                  · cases h
          · rcases rcond2 h with ⟨-, h⟩ | ⟨-, h⟩
            · rcases rcond2 h with ⟨-, h⟩ | ⟨-, h⟩
              · rcases rcond2 h with ⟨-, h⟩ | ⟨-, h⟩
                · rcases rcond2 h with ⟨hm, h⟩ | ⟨-, h⟩
                  · rw [Nat.eq_of_beq_eq_true hm]; exact rck_ok (tb := tr85) (fun _ => rfl) ck85 h
                  · cases h
                · rcases rcond2 h with ⟨hm, h⟩ | ⟨-, h⟩
                  · rw [Nat.eq_of_beq_eq_true hm]; exact rck_ok (tb := tr86) (fun _ => rfl) ck86 h
                  · cases h
              · rcases rcond2 h with ⟨-, h⟩ | ⟨-, h⟩
                · rcases rcond2 h with ⟨hm, h⟩ | ⟨-, h⟩
                  · rw [Nat.eq_of_beq_eq_true hm]; exact rck_ok (tb := tr87) (fun _ => rfl) ck87 h
                  · cases h
                · rcases rcond2 h with ⟨hm, h⟩ | ⟨-, h⟩
                  · rw [Nat.eq_of_beq_eq_true hm]; exact rck_ok (tb := tr88) (fun _ => rfl) ck88 h
                  · cases h
            · rcases rcond2 h with ⟨-, h⟩ | ⟨-, h⟩
              · rcases rcond2 h with ⟨-, h⟩ | ⟨-, h⟩
                · rcases rcond2 h with ⟨hm, h⟩ | ⟨-, h⟩
                  · rw [Nat.eq_of_beq_eq_true hm]; exact rck_ok (tb := tr89) (fun _ => rfl) ck89 h
                  · cases h
                · rcases rcond2 h with ⟨hm, h⟩ | ⟨-, h⟩
                  · rw [Nat.eq_of_beq_eq_true hm]; exact rck_ok (tb := tr90) (fun _ => rfl) ck90 h
                  · cases h
              · rcases rcond2 h with ⟨-, h⟩ | ⟨-, h⟩
                · rcases rcond2 h with ⟨hm, h⟩ | ⟨-, h⟩
                  · rw [Nat.eq_of_beq_eq_true hm]; exact rck_ok (tb := tr91) (fun _ => rfl) ck91 h
                  · cases h
                · rcases rcond2 h with ⟨hm, h⟩ | ⟨-, h⟩
                  · rw [Nat.eq_of_beq_eq_true hm]; exact rck_ok (tb := tr92) (fun _ => rfl) ck92 h
                  · cases h
      · rcases rcond2 h with ⟨-, h⟩ | ⟨-, h⟩
        · rcases rcond2 h with ⟨-, h⟩ | ⟨-, h⟩
          · rcases rcond2 h with ⟨-, h⟩ | ⟨-, h⟩
            · rcases rcond2 h with ⟨-, h⟩ | ⟨-, h⟩
              · rcases rcond2 h with ⟨-, h⟩ | ⟨-, h⟩
                · rcases rcond2 h with ⟨hm, h⟩ | ⟨-, h⟩
                  · rw [Nat.eq_of_beq_eq_true hm]; exact rck_ok (tb := tr93) (fun _ => rfl) ck93 h
                  · cases h
                · rcases rcond2 h with ⟨hm, h⟩ | ⟨-, h⟩
                  · rw [Nat.eq_of_beq_eq_true hm]; exact rck_ok (tb := tr94) (fun _ => rfl) ck94 h
                  · cases h
              · rcases rcond2 h with ⟨-, h⟩ | ⟨-, h⟩
                · rcases rcond2 h with ⟨hm, h⟩ | ⟨-, h⟩
                  · rw [Nat.eq_of_beq_eq_true hm]; exact rck_ok (tb := tr95) (fun _ => rfl) ck95 h
                  · cases h
                · rcases rcond2 h with ⟨hm, h⟩ | ⟨-, h⟩
                  · rw [Nat.eq_of_beq_eq_true hm]; exact rck_ok (tb := tr96) (fun _ => rfl) ck96 h
                  · cases h
            · rcases rcond2 h with ⟨-, h⟩ | ⟨-, h⟩
              · rcases rcond2 h with ⟨-, h⟩ | ⟨-, h⟩
                · rcases rcond2 h with ⟨hm, h⟩ | ⟨-, h⟩
                  · rw [Nat.eq_of_beq_eq_true hm]; exact rck_ok (tb := tr97) (fun _ => rfl) ck97 h
                  · cases h
                · rcases rcond2 h with ⟨hm, h⟩ | ⟨-, h⟩
                  · rw [Nat.eq_of_beq_eq_true hm]; exact rck_ok (tb := tr98) (fun _ => rfl) ck98 h
                  · cases h
              · rcases rcond2 h with ⟨-, h⟩ | ⟨-, h⟩
                · rcases rcond2 h with ⟨hm, h⟩ | ⟨-, h⟩
                  · rw [Nat.eq_of_beq_eq_true hm]; exact rck_ok (tb := tr99) (fun _ => rfl) ck99 h
                  · cases h
                · rcases rcond2 h with ⟨hm, h⟩ | ⟨-, h⟩
                  · rw [Nat.eq_of_beq_eq_true hm]; exact rck_ok (tb := tr100) (fun _ => rfl) ck100 h
                  · cases h
          · rcases rcond2 h with ⟨-, h⟩ | ⟨-, h⟩
            · rcases rcond2 h with ⟨-, h⟩ | ⟨-, h⟩
              · rcases rcond2 h with ⟨-, h⟩ | ⟨-, h⟩
                · rcases rcond2 h with ⟨hm, h⟩ | ⟨-, h⟩
                  · rw [Nat.eq_of_beq_eq_true hm]; exact rck_ok (tb := tr101) (fun _ => rfl) ck101 h
                  · cases h
                · rcases rcond2 h with ⟨hm, h⟩ | ⟨-, h⟩
                  · rw [Nat.eq_of_beq_eq_true hm]; exact rck_ok (tb := tr102) (fun _ => rfl) ck102 h
                  · cases h
              · rcases rcond2 h with ⟨-, h⟩ | ⟨-, h⟩
                · rcases rcond2 h with ⟨hm, h⟩ | ⟨-, h⟩
                  · rw [Nat.eq_of_beq_eq_true hm]; exact rck_ok (tb := tr103) (fun _ => rfl) ck103 h
                  · cases h
                · rcases rcond2 h with ⟨hm, h⟩ | ⟨-, h⟩
                  · rw [Nat.eq_of_beq_eq_true hm]; exact rck_ok (tb := tr104) (fun _ => rfl) ck104 h
                  · cases h
            · rcases rcond2 h with ⟨-, h⟩ | ⟨-, h⟩
              · rcases rcond2 h with ⟨-, h⟩ | ⟨-, h⟩
                · rcases rcond2 h with ⟨hm, h⟩ | ⟨-, h⟩
                  · rw [Nat.eq_of_beq_eq_true hm]; exact rck_ok (tb := tr105) (fun _ => rfl) ck105 h
                  · cases h
                · rcases rcond2 h with ⟨hm, h⟩ | ⟨-, h⟩
                  · rw [Nat.eq_of_beq_eq_true hm]; exact rck_ok (tb := tr106) (fun _ => rfl) ck106 h
                  · cases h
              · rcases rcond2 h with ⟨-, h⟩ | ⟨-, h⟩
                · rcases rcond2 h with ⟨hm, h⟩ | ⟨-, h⟩
                  · rw [Nat.eq_of_beq_eq_true hm]; exact rck_ok (tb := tr107) (fun _ => rfl) ck107 h
                  · cases h
                · rcases rcond2 h with ⟨hm, h⟩ | ⟨-, h⟩
                  · rw [Nat.eq_of_beq_eq_true hm]; exact rck_ok (tb := tr108) (fun _ => rfl) ck108 h
                  · cases h
        · rcases rcond2 h with ⟨-, h⟩ | ⟨-, h⟩
          · rcases rcond2 h with ⟨-, h⟩ | ⟨-, h⟩
            · rcases rcond2 h with ⟨-, h⟩ | ⟨-, h⟩
              · rcases rcond2 h with ⟨-, h⟩ | ⟨-, h⟩
                · rcases rcond2 h with ⟨hm, h⟩ | ⟨-, h⟩
                  · rw [Nat.eq_of_beq_eq_true hm]; exact rck_ok (tb := tr109) (fun _ => rfl) ck109 h
                  · cases h
                · rcases rcond2 h with ⟨hm, h⟩ | ⟨-, h⟩
                  · rw [Nat.eq_of_beq_eq_true hm]; exact rck_ok (tb := tr110) (fun _ => rfl) ck110 h
                  · cases h
              · rcases rcond2 h with ⟨-, h⟩ | ⟨-, h⟩
                · rcases rcond2 h with ⟨hm, h⟩ | ⟨-, h⟩
                  · rw [Nat.eq_of_beq_eq_true hm]; exact rck_ok (tb := tr111) (fun _ => rfl) ck111 h
                  · cases h
                · rcases rcond2 h with ⟨hm, h⟩ | ⟨-, h⟩
                  · rw [Nat.eq_of_beq_eq_true hm]; exact rck_ok (tb := tr112) (fun _ => rfl) ck112 h
                  · cases h
            · rcases rcond2 h with ⟨-, h⟩ | ⟨-, h⟩
              · rcases rcond2 h with ⟨-, h⟩ | ⟨-, h⟩
                · rcases rcond2 h with ⟨hm, h⟩ | ⟨-, h⟩
                  · rw [Nat.eq_of_beq_eq_true hm]; exact rck_ok (tb := tr113) (fun _ => rfl) ck113 h
                  · cases h
                · rcases rcond2 h with ⟨hm, h⟩ | ⟨-, h⟩
                  · rw [Nat.eq_of_beq_eq_true hm]; exact rck_ok (tb := tr114) (fun _ => rfl) ck114 h
                  · cases h
              · rcases rcond2 h with ⟨-, h⟩ | ⟨-, h⟩
                · rcases rcond2 h with ⟨hm, h⟩ | ⟨-, h⟩
                  · rw [Nat.eq_of_beq_eq_true hm]; exact rck_ok (tb := tr115) (fun _ => rfl) ck115 h
                  · cases h
                · rcases rcond2 h with ⟨hm, h⟩ | ⟨-, h⟩
                  · rw [Nat.eq_of_beq_eq_true hm]; exact rck_ok (tb := tr116) (fun _ => rfl) ck116 h
                  · cases h
          · rcases rcond2 h with ⟨-, h⟩ | ⟨-, h⟩
            · rcases rcond2 h with ⟨-, h⟩ | ⟨-, h⟩
              · rcases rcond2 h with ⟨-, h⟩ | ⟨-, h⟩
                · rcases rcond2 h with ⟨hm, h⟩ | ⟨-, h⟩
                  · rw [Nat.eq_of_beq_eq_true hm]; exact rck_ok (tb := tr117) (fun _ => rfl) ck117 h
                  · cases h
                · rcases rcond2 h with ⟨hm, h⟩ | ⟨-, h⟩
                  · rw [Nat.eq_of_beq_eq_true hm]; exact rck_ok (tb := tr118) (fun _ => rfl) ck118 h
                  · cases h
              · rcases rcond2 h with ⟨-, h⟩ | ⟨-, h⟩
                · rcases rcond2 h with ⟨hm, h⟩ | ⟨-, h⟩
                  · rw [Nat.eq_of_beq_eq_true hm]; exact rck_ok (tb := tr119) (fun _ => rfl) ck119 h
                  · cases h
                · rcases rcond2 h with ⟨hm, h⟩ | ⟨-, h⟩
                  · rw [Nat.eq_of_beq_eq_true hm]; exact rck_ok (tb := tr120) (fun _ => rfl) ck120 h
                  · cases h
            · rcases rcond2 h with ⟨-, h⟩ | ⟨-, h⟩
              · rcases rcond2 h with ⟨-, h⟩ | ⟨-, h⟩
                · rcases rcond2 h with ⟨hm, h⟩ | ⟨-, h⟩
                  · rw [Nat.eq_of_beq_eq_true hm]; exact rck_ok (tb := tr121) (fun _ => rfl) ck121 h
                  · cases h
                · rcases rcond2 h with ⟨hm, h⟩ | ⟨-, h⟩
                  · rw [Nat.eq_of_beq_eq_true hm]; exact rck_ok (tb := tr122) (fun _ => rfl) ck122 h
                  · cases h
              · rcases rcond2 h with ⟨-, h⟩ | ⟨-, h⟩
                · rcases rcond2 h with ⟨hm, h⟩ | ⟨-, h⟩
                  · rw [Nat.eq_of_beq_eq_true hm]; exact rck_ok (tb := tr123) (fun _ => rfl) ck123 h
                  · cases h
                · rcases rcond2 h with ⟨hm, h⟩ | ⟨-, h⟩
                  · rw [Nat.eq_of_beq_eq_true hm]; exact rck_ok (tb := tr124) (fun _ => rfl) ck124 h
                  · cases h
  · rcases rcond2 h with ⟨-, h⟩ | ⟨-, h⟩
    · rcases rcond2 h with ⟨-, h⟩ | ⟨-, h⟩
      · rcases rcond2 h with ⟨-, h⟩ | ⟨-, h⟩
        · rcases rcond2 h with ⟨-, h⟩ | ⟨-, h⟩
          · rcases rcond2 h with ⟨-, h⟩ | ⟨-, h⟩
            · rcases rcond2 h with ⟨-, h⟩ | ⟨-, h⟩
              · rcases rcond2 h with ⟨hm, h⟩ | ⟨-, h⟩
                · rw [Nat.eq_of_beq_eq_true hm]; exact rck_ok (tb := tr125) (fun _ => rfl) ck125 h
                · cases h
              · rcases rcond2 h with ⟨-, h⟩ | ⟨-, h⟩
                · rcases rcond2 h with ⟨hm, h⟩ | ⟨-, h⟩
                  · rw [Nat.eq_of_beq_eq_true hm]; exact rck_ok (tb := tr126) (fun _ => rfl) ck126 h
                  · cases h
                · rcases rcond2 h with ⟨hm, h⟩ | ⟨-, h⟩
                  · rw [Nat.eq_of_beq_eq_true hm]; exact rck_ok (tb := tr127) (fun _ => rfl) ck127 h
                  · cases h
            · rcases rcond2 h with ⟨-, h⟩ | ⟨-, h⟩
              · rcases rcond2 h with ⟨-, h⟩ | ⟨-, h⟩
                · rcases rcond2 h with ⟨hm, h⟩ | ⟨-, h⟩
                  · rw [Nat.eq_of_beq_eq_true hm]; exact rck_ok (tb := tr128) (fun _ => rfl) ck128 h
                  · cases h
                · rcases rcond2 h with ⟨hm, h⟩ | ⟨-, h⟩
                  · rw [Nat.eq_of_beq_eq_true hm]; exact rck_ok (tb := tr129) (fun _ => rfl) ck129 h
                  · cases h
              · rcases rcond2 h with ⟨-, h⟩ | ⟨-, h⟩
                · rcases rcond2 h with ⟨hm, h⟩ | ⟨-, h⟩
                  · rw [Nat.eq_of_beq_eq_true hm]; exact rck_ok (tb := tr130) (fun _ => rfl) ck130 h
                  · cases h
                · rcases rcond2 h with ⟨hm, h⟩ | ⟨-, h⟩
                  · rw [Nat.eq_of_beq_eq_true hm]; exact rck_ok (tb := tr131) (fun _ => rfl) ck131 h
                  · cases h
          · rcases rcond2 h with ⟨-, h⟩ | ⟨-, h⟩
            · rcases rcond2 h with ⟨-, h⟩ | ⟨-, h⟩
              · rcases rcond2 h with ⟨-, h⟩ | ⟨-, h⟩
                · rcases rcond2 h with ⟨hm, h⟩ | ⟨-, h⟩
                  · rw [Nat.eq_of_beq_eq_true hm]; exact rck_ok (tb := tr132) (fun _ => rfl) ck132 h
                  · cases h
                · rcases rcond2 h with ⟨hm, h⟩ | ⟨-, h⟩
                  · rw [Nat.eq_of_beq_eq_true hm]; exact rck_ok (tb := tr133) (fun _ => rfl) ck133 h
                  · cases h
              · rcases rcond2 h with ⟨-, h⟩ | ⟨-, h⟩
                · rcases rcond2 h with ⟨hm, h⟩ | ⟨-, h⟩
                  · rw [Nat.eq_of_beq_eq_true hm]; exact rck_ok (tb := tr134) (fun _ => rfl) ck134 h
                  · cases h
                · rcases rcond2 h with ⟨hm, h⟩ | ⟨-, h⟩
                  · rw [Nat.eq_of_beq_eq_true hm]; exact rck_ok (tb := tr135) (fun _ => rfl) ck135 h
                  · cases h
            · rcases rcond2 h with ⟨-, h⟩ | ⟨-, h⟩
              · rcases rcond2 h with ⟨-, h⟩ | ⟨-, h⟩
                · rcases rcond2 h with ⟨hm, h⟩ | ⟨-, h⟩
                  · rw [Nat.eq_of_beq_eq_true hm]; exact rck_ok (tb := tr136) (fun _ => rfl) ck136 h
                  · cases h
                · rcases rcond2 h with ⟨hm, h⟩ | ⟨-, h⟩
                  · rw [Nat.eq_of_beq_eq_true hm]; exact rck_ok (tb := tr137) (fun _ => rfl) ck137 h
                  · cases h
              · rcases rcond2 h with ⟨-, h⟩ | ⟨-, h⟩
                · rcases rcond2 h with ⟨hm, h⟩ | ⟨-, h⟩
                  · rw [Nat.eq_of_beq_eq_true hm]; exact rck_ok (tb := tr138) (fun _ => rfl) ck138 h
                  · cases h
                · rcases rcond2 h with ⟨hm, h⟩ | ⟨-, h⟩
                  · rw [Nat.eq_of_beq_eq_true hm]; exact rck_ok (tb := tr139) (fun _ => rfl) ck139 h
                  · cases h
        · rcases rcond2 h with ⟨-, h⟩ | ⟨-, h⟩
          · rcases rcond2 h with ⟨-, h⟩ | ⟨-, h⟩
            · rcases rcond2 h with ⟨-, h⟩ | ⟨-, h⟩
              · rcases rcond2 h with ⟨-, h⟩ | ⟨-, h⟩
                · rcases rcond2 h with ⟨hm, h⟩ | ⟨-, h⟩
                  · rw [Nat.eq_of_beq_eq_true hm]; exact rck_ok (tb := tr140) (fun _ => rfl) ck140 h
                  · cases h
                · rcases rcond2 h with ⟨hm, h⟩ | ⟨-, h⟩
                  · rw [Nat.eq_of_beq_eq_true hm]; exact rck_ok (tb := tr141) (fun _ => rfl) ck141 h
                  · cases h
              · rcases rcond2 h with ⟨-, h⟩ | ⟨-, h⟩
                · rcases rcond2 h with ⟨hm, h⟩ | ⟨-, h⟩
                  · rw [Nat.eq_of_beq_eq_true hm]; exact rck_ok (tb := tr142) (fun _ => rfl) ck142 h
                  · cases h
                · rcases rcond2 h with ⟨hm, h⟩ | ⟨-, h⟩
                  · rw [Nat.eq_of_beq_eq_true hm]; exact rck_ok (tb := tr143) (fun _ => rfl) ck143 h
                  · cases h
            · rcases rcond2 h with ⟨-, h⟩ | ⟨-, h⟩
              · rcases rcond2 h with ⟨-, h⟩ | ⟨-, h⟩
                · rcases rcond2 h with ⟨hm, h⟩ | ⟨-, h⟩
                  · rw [Nat.eq_of_beq_eq_true hm]; exact rck_ok (tb := tr144) (fun _ => rfl) ck144 h
                  · cases h
                · rcases rcond2 h with ⟨hm, h⟩ | ⟨-, h⟩
                  · rw [Nat.eq_of_beq_eq_true hm]; exact rck_ok (tb := tr145) (fun _ => rfl) ck145 h
                  · cases h
              · rcases rcond2 h with ⟨-, h⟩ | ⟨-, h⟩
                · rcases rcond2 h with ⟨hm, h⟩ | ⟨-, h⟩
                  · rw [Nat.eq_of_beq_eq_true hm]; exact rck_ok (tb := tr146) (fun _ => rfl) ck146 h
                  · cases h
                · rcases rcond2 h with ⟨hm, h⟩ | ⟨-, h⟩
                  · rw [Nat.eq_of_beq_eq_true hm]; exact rck_ok (tb := tr147) (fun _ => rfl) ck147 h
                  · cases h
          · rcases rcond2 h with ⟨-, h⟩ | ⟨-, h⟩
            · rcases rcond2 h with ⟨-, h⟩ | ⟨-, h⟩
              · rcases rcond2 h with ⟨-, h⟩ | ⟨-, h⟩
                · rcases rcond2 h with ⟨hm, h⟩ | ⟨-, h⟩
                  · rw [Nat.eq_of_beq_eq_true hm]; exact rck_ok (tb := tr148) (fun _ => rfl) ck148 h
                  · cases h
                · rcases rcond2 h with ⟨hm, h⟩ | ⟨-, h⟩
                  · rw [Nat.eq_of_beq_eq_true hm]; exact rck_ok (tb := tr149) (fun _ => rfl) ck149 h
                  · cases h
              · rcases rcond2 h with ⟨-, h⟩ | ⟨-, h⟩
                · rcases rcond2 h with ⟨hm, h⟩ | ⟨-, h⟩
                  · rw [Nat.eq_of_beq_eq_true hm]; exact rck_ok (tb := tr150) (fun _ => rfl) ck150 h
                  · cases h
                · rcases rcond2 h with ⟨hm, h⟩ | ⟨-, h⟩
                  · rw [Nat.eq_of_beq_eq_true hm]; exact rck_ok (tb := tr151) (fun _ => rfl) ck151 h
                  · cases h
            · rcases rcond2 h with ⟨-, h⟩ | ⟨-, h⟩
              · rcases rcond2 h with ⟨-, h⟩ | ⟨-, h⟩
                · rcases rcond2 h with ⟨hm, h⟩ | ⟨-, h⟩
                  · rw [Nat.eq_of_beq_eq_true hm]; exact rck_ok (tb := tr152) (fun _ => rfl) ck152 h
                  · cases h
                · rcases rcond2 h with ⟨hm, h⟩ | ⟨-, h⟩
                  · rw [Nat.eq_of_beq_eq_true hm]; exact rck_ok (tb := tr153) (fun _ => rfl) ck153 h
                  · cases h
              · rcases rcond2 h with ⟨-, h⟩ | ⟨-, h⟩
                · rcases rcond2 h with ⟨hm, h⟩ | ⟨-, h⟩
                  · rw [Nat.eq_of_beq_eq_true hm]; exact rck_ok (tb := tr154) (fun _ => rfl) ck154 h
                  · cases h
                · rcases rcond2 h with ⟨hm, h⟩ | ⟨-, h⟩
                  · rw [Nat.eq_of_beq_eq_true hm]; exact rck_ok (tb := tr155) (fun _ => rfl) ck155 h
                  · cases h
      · rcases rcond2 h with ⟨-, h⟩ | ⟨-, h⟩
        · rcases rcond2 h with ⟨-, h⟩ | ⟨-, h⟩
          · rcases rcond2 h with ⟨-, h⟩ | ⟨-, h⟩
            · rcases rcond2 h with ⟨-, h⟩ | ⟨-, h⟩
              · rcases rcond2 h with ⟨-, h⟩ | ⟨-, h⟩
                · rcases rcond2 h with ⟨hm, h⟩ | ⟨-, h⟩
                  · rw [Nat.eq_of_beq_eq_true hm]; exact rck_ok (tb := tr156) (fun _ => rfl) ck156 h
                  · cases h
                · rcases rcond2 h with ⟨hm, h⟩ | ⟨-, h⟩
                  · rw [Nat.eq_of_beq_eq_true hm]; exact rck_ok (tb := tr157) (fun _ => rfl) ck157 h
                  · cases h
              · rcases rcond2 h with ⟨-, h⟩ | ⟨-, h⟩
                · rcases rcond2 h with ⟨hm, h⟩ | ⟨-, h⟩
                  · rw [Nat.eq_of_beq_eq_true hm]; exact rck_ok (tb := tr158) (fun _ => rfl) ck158 h
                  · cases h
                · rcases rcond2 h with ⟨hm, h⟩ | ⟨-, h⟩
                  · rw [Nat.eq_of_beq_eq_true hm]; exact rck_ok (tb := tr159) (fun _ => rfl) ck159 h
                  · cases h
            · rcases rcond2 h with ⟨-, h⟩ | ⟨-, h⟩
              · rcases rcond2 h with ⟨-, h⟩ | ⟨-, h⟩
                · rcases rcond2 h with ⟨hm, h⟩ | ⟨-, h⟩
                  · rw [Nat.eq_of_beq_eq_true hm]; exact rck_ok (tb := tr160) (fun _ => rfl) ck160 h
                  · cases h
                · rcases rcond2 h with ⟨hm, h⟩ | ⟨-, h⟩
                  · rw [Nat.eq_of_beq_eq_true hm]; exact rck_ok (tb := tr161) (fun _ => rfl) ck161 h
                  · cases h
              · rcases rcond2 h with ⟨-, h⟩ | ⟨-, h⟩
                · rcases rcond2 h with ⟨hm, h⟩ | ⟨-, h⟩
                  · rw [Nat.eq_of_beq_eq_true hm]; exact rck_ok (tb := tr162) (fun _ => rfl) ck162 h
                  · cases h
                · rcases rcond2 h with ⟨hm, h⟩ | ⟨-, h⟩
                  · rw [Nat.eq_of_beq_eq_true hm]; exact rck_ok (tb := tr163) (fun _ => rfl) ck163 h
                  · cases h
          · rcases rcond2 h with ⟨-, h⟩ | ⟨-, h⟩
            · rcases rcond2 h with ⟨-, h⟩ | ⟨-, h⟩
              · rcases rcond2 h with ⟨-, h⟩ | ⟨-, h⟩
                · rcases rcond2 h with ⟨hm, h⟩ | ⟨-, h⟩
                  · rw [Nat.eq_of_beq_eq_true hm]; exact rck_ok (tb := tr164) (fun _ => rfl) ck164 h
                  · cases h
                · rcases rcond2 h with ⟨hm, h⟩ | ⟨-, h⟩
                  · rw [Nat.eq_of_beq_eq_true hm]; exact rck_ok (tb := tr165) (fun _ => rfl) ck165 h
                  · cases h
              · rcases rcond2 h with ⟨-, h⟩ | ⟨-, h⟩
                · rcases rcond2 h with ⟨hm, h⟩ | ⟨-, h⟩
                  · rw [Nat.eq_of_beq_eq_true hm]; exact rck_ok (tb := tr166) (fun _ => rfl) ck166 h
                  · cases h
                · rcases rcond2 h with ⟨hm, h⟩ | ⟨-, h⟩
                  · rw [Nat.eq_of_beq_eq_true hm]; exact rck_ok (tb := tr167) (fun _ => rfl) ck167 h
                  · cases h
            · rcases rcond2 h with ⟨-, h⟩ | ⟨-, h⟩
              · rcases rcond2 h with ⟨-, h⟩ | ⟨-, h⟩
                · rcases rcond2 h with ⟨hm, h⟩ | ⟨-, h⟩
                  · rw [Nat.eq_of_beq_eq_true hm]; exact rck_ok (tb := tr168) (fun _ => rfl) ck168 h
                  · cases h
                · rcases rcond2 h with ⟨hm, h⟩ | ⟨-, h⟩
                  · rw [Nat.eq_of_beq_eq_true hm]; exact rck_ok (tb := tr169) (fun _ => rfl) ck169 h
                  · cases h
              · rcases rcond2 h with ⟨-, h⟩ | ⟨-, h⟩
                · rcases rcond2 h with ⟨hm, h⟩ | ⟨-, h⟩
                  · rw [Nat.eq_of_beq_eq_true hm]; exact rck_ok (tb := tr170) (fun _ => rfl) ck170 h
                  · cases h
                · rcases rcond2 h with ⟨hm, h⟩ | ⟨-, h⟩
                  · rw [Nat.eq_of_beq_eq_true hm]; exact rck_ok (tb := tr171) (fun _ => rfl) ck171 h
                  · cases h
        · rcases rcond2 h with ⟨-, h⟩ | ⟨-, h⟩
          · rcases rcond2 h with ⟨-, h⟩ | ⟨-, h⟩
            · rcases rcond2 h with ⟨-, h⟩ | ⟨-, h⟩
              · rcases rcond2 h with ⟨-, h⟩ | ⟨-, h⟩
                · rcases rcond2 h with ⟨hm, h⟩ | ⟨-, h⟩
                  · rw [Nat.eq_of_beq_eq_true hm]; exact rck_ok (tb := tr172) (fun _ => rfl) ck172 h
                  · cases h
                · rcases rcond2 h with ⟨hm, h⟩ | ⟨-, h⟩
                  · rw [Nat.eq_of_beq_eq_true hm]; exact rck_ok (tb := tr173) (fun _ => rfl) ck173 h
                  · cases h
              · rcases rcond2 h with ⟨-, h⟩ | ⟨-, h⟩
                · rcases rcond2 h with ⟨hm, h⟩ | ⟨-, h⟩
                  · rw [Nat.eq_of_beq_eq_true hm]; exact rck_ok (tb := tr174) (fun _ => rfl) ck174 h
                  · cases h
                · rcases rcond2 h with ⟨hm, h⟩ | ⟨-, h⟩
                  · rw [Nat.eq_of_beq_eq_true hm]; exact rck_ok (tb := tr175) (fun _ => rfl) ck175 h
                  · cases h
            · rcases rcond2 h with ⟨-, h⟩ | ⟨-, h⟩
              · rcases rcond2 h with ⟨-, h⟩ | ⟨-, h⟩
                · rcases rcond2 h with ⟨hm, h⟩ | ⟨-, h⟩
                  · rw [Nat.eq_of_beq_eq_true hm]; exact rck_ok (tb := tr176) (fun _ => rfl) ck176 h
                  · cases h
                · rcases rcond2 h with ⟨hm, h⟩ | ⟨-, h⟩
                  · rw [Nat.eq_of_beq_eq_true hm]; exact rck_ok (tb := tr177) (fun _ => rfl) ck177 h
                  · cases h
              · rcases rcond2 h with ⟨-, h⟩ | ⟨-, h⟩
                · rcases rcond2 h with ⟨hm, h⟩ | ⟨-, h⟩
                  · rw [Nat.eq_of_beq_eq_true hm]; exact rck_ok (tb := tr178) (fun _ => rfl) ck178 h
                  · cases h
                · rcases rcond2 h with ⟨hm, h⟩ | ⟨-, h⟩
                  · rw [Nat.eq_of_beq_eq_true hm]; exact rck_ok (tb := tr179) (fun _ => rfl) ck179 h
                  · cases h
          · rcases rcond2 h with ⟨-, h⟩ | ⟨-, h⟩
            · rcases rcond2 h with ⟨-, h⟩ | ⟨-, h⟩
              · rcases rcond2 h with ⟨-, h⟩ | ⟨-, h⟩
                · rcases rcond2 h with ⟨hm, h⟩ | ⟨-, h⟩
                  · rw [Nat.eq_of_beq_eq_true hm]; exact rck_ok (tb := tr180) (fun _ => rfl) ck180 h
                  · cases h
                · rcases rcond2 h with ⟨hm, h⟩ | ⟨-, h⟩
                  · rw [Nat.eq_of_beq_eq_true hm]; exact rck_ok (tb := tr181) (fun _ => rfl) ck181 h
                  · cases h
              · rcases rcond2 h with ⟨-, h⟩ | ⟨-, h⟩
                · rcases rcond2 h with ⟨hm, h⟩ | ⟨-, h⟩
                  · rw [Nat.eq_of_beq_eq_true hm]; exact rck_ok (tb := tr182) (fun _ => rfl) ck182 h
                  · cases h
                · rcases rcond2 h with ⟨hm, h⟩ | ⟨-, h⟩
                  · rw [Nat.eq_of_beq_eq_true hm]; exact rck_ok (tb := tr183) (fun _ => rfl) ck183 h
                  · cases h
            · rcases rcond2 h with ⟨-, h⟩ | ⟨-, h⟩
              · rcases rcond2 h with ⟨-, h⟩ | ⟨-, h⟩
                · rcases rcond2 h with ⟨hm, h⟩ | ⟨-, h⟩
                  · rw [Nat.eq_of_beq_eq_true hm]; exact rck_ok (tb := tr184) (fun _ => rfl) ck184 h
                  · cases h
                · rcases rcond2 h with ⟨hm, h⟩ | ⟨-, h⟩
                  · rw [Nat.eq_of_beq_eq_true hm]; exact rck_ok (tb := tr185) (fun _ => rfl) ck185 h
                  · cases h
              · rcases rcond2 h with ⟨-, h⟩ | ⟨-, h⟩
                · rcases rcond2 h with ⟨hm, h⟩ | ⟨-, h⟩
                  · rw [Nat.eq_of_beq_eq_true hm]; exact rck_ok (tb := tr186) (fun _ => rfl) ck186 h
                  · cases h
                · rcases rcond2 h with ⟨hm, h⟩ | ⟨-, h⟩
                  · rw [Nat.eq_of_beq_eq_true hm]; exact rck_ok (tb := tr187) (fun _ => rfl) ck187 h
                  · cases h
    · rcases rcond2 h with ⟨-, h⟩ | ⟨-, h⟩
      · rcases rcond2 h with ⟨-, h⟩ | ⟨-, h⟩
        · rcases rcond2 h with ⟨-, h⟩ | ⟨-, h⟩
          · rcases rcond2 h with ⟨-, h⟩ | ⟨-, h⟩
            · rcases rcond2 h with ⟨-, h⟩ | ⟨-, h⟩
              · rcases rcond2 h with ⟨hm, h⟩ | ⟨-, h⟩
                · rw [Nat.eq_of_beq_eq_true hm]; exact rck_ok (tb := tr188) (fun _ => rfl) ck188 h
                · cases h
              · rcases rcond2 h with ⟨-, h⟩ | ⟨-, h⟩
                · rcases rcond2 h with ⟨hm, h⟩ | ⟨-, h⟩
                  · rw [Nat.eq_of_beq_eq_true hm]; exact rck_ok (tb := tr189) (fun _ => rfl) ck189 h
                  · cases h
                · rcases rcond2 h with ⟨hm, h⟩ | ⟨-, h⟩
                  · rw [Nat.eq_of_beq_eq_true hm]; exact rck_ok (tb := tr190) (fun _ => rfl) ck190 h
                  · cases h
            · rcases rcond2 h with ⟨-, h⟩ | ⟨-, h⟩
              · rcases rcond2 h with ⟨-, h⟩ | ⟨-, h⟩
                · rcases rcond2 h with ⟨hm, h⟩ | ⟨-, h⟩
                  · rw [Nat.eq_of_beq_eq_true hm]; exact rck_ok (tb := tr191) (fun _ => rfl) ck191 h
                  · cases h
                · rcases rcond2 h with ⟨hm, h⟩ | ⟨-, h⟩
                  · rw [Nat.eq_of_beq_eq_true hm]; exact rck_ok (tb := tr192) (fun _ => rfl) ck192 h
                  · cases h
              · rcases rcond2 h with ⟨-, h⟩ | ⟨-, h⟩
                · rcases rcond2 h with ⟨hm, h⟩ | ⟨-, h⟩
                  · rw [Nat.eq_of_beq_eq_true hm]; exact rck_ok (tb := tr193) (fun _ => rfl) ck193 h
                  · cases h
                · rcases rcond2 h with ⟨hm, h⟩ | ⟨-, h⟩
                  · rw [Nat.eq_of_beq_eq_true hm]; exact rck_ok (tb := tr194) (fun _ => rfl) ck194 h
                  · cases h
          · rcases rcond2 h with ⟨-, h⟩ | ⟨-, h⟩
            · rcases rcond2 h with ⟨-, h⟩ | ⟨-, h⟩
              · rcases rcond2 h with ⟨-, h⟩ | ⟨-, h⟩
                · rcases rcond2 h with ⟨hm, h⟩ | ⟨-, h⟩
                  · rw [Nat.eq_of_beq_eq_true hm]; exact rck_ok (tb := tr195) (fun _ => rfl) ck195 h
                  · cases h
                · rcases rcond2 h with ⟨hm, h⟩ | ⟨-, h⟩
                  · rw [Nat.eq_of_beq_eq_true hm]; exact rck_ok (tb := tr196) (fun _ => rfl) ck196 h
                  · cases h
              · rcases rcond2 h with ⟨-, h⟩ | ⟨-, h⟩
                · rcases rcond2 h with ⟨hm, h⟩ | ⟨-, h⟩
                  · rw [Nat.eq_of_beq_eq_true hm]; exact rck_ok (tb := tr197) (fun _ => rfl) ck197 h
                  · cases h
                · rcases rcond2 h with ⟨hm, h⟩ | ⟨-, h⟩
                  · rw [Nat.eq_of_beq_eq_true hm]; exact rck_ok (tb := tr198) (fun _ => rfl) ck198 h
                  · cases h
            · rcases rcond2 h with ⟨-, h⟩ | ⟨-, h⟩
              · rcases rcond2 h with ⟨-, h⟩ | ⟨-, h⟩
                · rcases rcond2 h with ⟨hm, h⟩ | ⟨-, h⟩
                  · rw [Nat.eq_of_beq_eq_true hm]; exact rck_ok (tb := tr199) (fun _ => rfl) ck199 h
                  · cases h
                · rcases rcond2 h with ⟨hm, h⟩ | ⟨-, h⟩
                  · rw [Nat.eq_of_beq_eq_true hm]; exact rck_ok (tb := tr200) (fun _ => rfl) ck200 h
                  · cases h
              · rcases rcond2 h with ⟨-, h⟩ | ⟨-, h⟩
                · rcases rcond2 h with ⟨hm, h⟩ | ⟨-, h⟩
                  · rw [Nat.eq_of_beq_eq_true hm]; exact rck_ok (tb := tr201) (fun _ => rfl) ck201 h
                  · cases h
                · rcases rcond2 h with ⟨hm, h⟩ | ⟨-, h⟩
                  · rw [Nat.eq_of_beq_eq_true hm]; exact rck_ok (tb := tr202) (fun _ => rfl) ck202 h
                  · cases h
        · rcases rcond2 h with ⟨-, h⟩ | ⟨-, h⟩
          · rcases rcond2 h with ⟨-, h⟩ | ⟨-, h⟩
            · rcases rcond2 h with ⟨-, h⟩ | ⟨-, h⟩
              · rcases rcond2 h with ⟨-, h⟩ | ⟨-, h⟩
                · rcases rcond2 h with ⟨hm, h⟩ | ⟨-, h⟩
                  · rw [Nat.eq_of_beq_eq_true hm]; exact rck_ok (tb := tr203) (fun _ => rfl) ck203 h
                  · cases h
                · rcases rcond2 h with ⟨hm, h⟩ | ⟨-, h⟩
                  · rw [Nat.eq_of_beq_eq_true hm]; exact rck_ok (tb := tr204) (fun _ => rfl) ck204 h
                  · cases h
              · rcases rcond2 h with ⟨-, h⟩ | ⟨-, h⟩
                · rcases rcond2 h with ⟨hm, h⟩ | ⟨-, h⟩
                  · rw [Nat.eq_of_beq_eq_true hm]; exact rck_ok (tb := tr205) (fun _ => rfl) ck205 h
                  · cases h
                · rcases rcond2 h with ⟨hm, h⟩ | ⟨-, h⟩
                  · rw [Nat.eq_of_beq_eq_true hm]; exact rck_ok (tb := tr206) (fun _ => rfl) ck206 h
                  · cases h
            · rcases rcond2 h with ⟨-, h⟩ | ⟨-, h⟩
              · rcases rcond2 h with ⟨-, h⟩ | ⟨-, h⟩
                · rcases rcond2 h with ⟨hm, h⟩ | ⟨-, h⟩
                  · rw [Nat.eq_of_beq_eq_true hm]; exact rck_ok (tb := tr207) (fun _ => rfl) ck207 h
                  · cases h
                · rcases rcond2 h with ⟨hm, h⟩ | ⟨-, h⟩
                  · rw [Nat.eq_of_beq_eq_true hm]; exact rck_ok (tb := tr208) (fun _ => rfl) ck208 h
                  · cases h
              · rcases rcond2 h with ⟨-, h⟩ | ⟨-, h⟩
                · rcases rcond2 h with ⟨hm, h⟩ | ⟨-, h⟩
                  · rw [Nat.eq_of_beq_eq_true hm]; exact rck_ok (tb := tr209) (fun _ => rfl) ck209 h
                  · cases h
                · rcases rcond2 h with ⟨hm, h⟩ | ⟨-, h⟩
                  · rw [Nat.eq_of_beq_eq_true hm]; exact rck_ok (tb := tr210) (fun _ => rfl) ck210 h
                  · cases h
          · rcases rcond2 h with ⟨-, h⟩ | ⟨-, h⟩
            · rcases rcond2 h with ⟨-, h⟩ | ⟨-, h⟩
              · rcases rcond2 h with ⟨-, h⟩ | ⟨-, h⟩
                · rcases rcond2 h with ⟨hm, h⟩ | ⟨-, h⟩
                  · rw [Nat.eq_of_beq_eq_true hm]; exact rck_ok (tb := tr211) (fun _ => rfl) ck211 h
                  · cases h
                · rcases rcond2 h with ⟨hm, h⟩ | ⟨-, h⟩
                  · rw [Nat.eq_of_beq_eq_true hm]; exact rck_ok (tb := tr212) (fun _ => rfl) ck212 h
                  · cases h
              · rcases rcond2 h with ⟨-, h⟩ | ⟨-, h⟩
                · rcases rcond2 h with ⟨hm, h⟩ | ⟨-, h⟩
                  · rw [Nat.eq_of_beq_eq_true hm]; exact rck_ok (tb := tr213) (fun _ => rfl) ck213 h
                  · cases h
                · rcases rcond2 h with ⟨hm, h⟩ | ⟨-, h⟩
                  · rw [Nat.eq_of_beq_eq_true hm]; exact rck_ok (tb := tr214) (fun _ => rfl) ck214 h
                  · cases h
            · rcases rcond2 h with ⟨-, h⟩ | ⟨-, h⟩
              · rcases rcond2 h with ⟨-, h⟩ | ⟨-, h⟩
                · rcases rcond2 h with ⟨hm, h⟩ | ⟨-, h⟩
                  · rw [Nat.eq_of_beq_eq_true hm]; exact rck_ok (tb := tr215) (fun _ => rfl) ck215 h
                  · cases h
                · rcases rcond2 h with ⟨hm, h⟩ | ⟨-, h⟩
                  · rw [Nat.eq_of_beq_eq_true hm]; exact rck_ok (tb := tr216) (fun _ => rfl) ck216 h
                  · cases h
              · rcases rcond2 h with ⟨-, h⟩ | ⟨-, h⟩
                · rcases rcond2 h with ⟨hm, h⟩ | ⟨-, h⟩
                  · rw [Nat.eq_of_beq_eq_true hm]; exact rck_ok (tb := tr217) (fun _ => rfl) ck217 h
                  · cases h
                · rcases rcond2 h with ⟨hm, h⟩ | ⟨-, h⟩
                  · rw [Nat.eq_of_beq_eq_true hm]; exact rck_ok (tb := tr218) (fun _ => rfl) ck218 h
                  · cases h
      · rcases rcond2 h with ⟨-, h⟩ | ⟨-, h⟩
        · rcases rcond2 h with ⟨-, h⟩ | ⟨-, h⟩
          · rcases rcond2 h with ⟨-, h⟩ | ⟨-, h⟩
            · rcases rcond2 h with ⟨-, h⟩ | ⟨-, h⟩
              · rcases rcond2 h with ⟨-, h⟩ | ⟨-, h⟩
                · rcases rcond2 h with ⟨hm, h⟩ | ⟨-, h⟩
                  · rw [Nat.eq_of_beq_eq_true hm]; exact rck_ok (tb := tr219) (fun _ => rfl) ck219 h
                  · cases h
                · rcases rcond2 h with ⟨hm, h⟩ | ⟨-, h⟩
                  · rw [Nat.eq_of_beq_eq_true hm]; exact rck_ok (tb := tr220) (fun _ => rfl) ck220 h
                  · cases h
              · rcases rcond2 h with ⟨-, h⟩ | ⟨-, h⟩
                · rcases rcond2 h with ⟨hm, h⟩ | ⟨-, h⟩
                  · rw [Nat.eq_of_beq_eq_true hm]; exact rck_ok (tb := tr221) (fun _ => rfl) ck221 h
                  · cases h
                · rcases rcond2 h with ⟨hm, h⟩ | ⟨-, h⟩
                  · rw [Nat.eq_of_beq_eq_true hm]; exact rck_ok (tb := tr222) (fun _ => rfl) ck222 h
                  · cases h
            · rcases rcond2 h with ⟨-, h⟩ | ⟨-, h⟩
              · rcases rcond2 h with ⟨-, h⟩ | ⟨-, h⟩
                · rcases rcond2 h with ⟨hm, h⟩ | ⟨-, h⟩
                  · rw [Nat.eq_of_beq_eq_true hm]; exact rck_ok (tb := tr223) (fun _ => rfl) ck223 h
                  · cases h
                · rcases rcond2 h with ⟨hm, h⟩ | ⟨-, h⟩
                  · rw [Nat.eq_of_beq_eq_true hm]; exact rck_ok (tb := tr224) (fun _ => rfl) ck224 h
                  · cases h
              · rcases rcond2 h with ⟨-, h⟩ | ⟨-, h⟩
                · rcases rcond2 h with ⟨hm, h⟩ | ⟨-, h⟩
                  · rw [Nat.eq_of_beq_eq_true hm]; exact rck_ok (tb := tr225) (fun _ => rfl) ck225 h
                  · cases h
                · rcases rcond2 h with ⟨hm, h⟩ | ⟨-, h⟩
                  · rw [Nat.eq_of_beq_eq_true hm]; exact rck_ok (tb := tr226) (fun _ => rfl) ck226 h
                  · cases h
          · rcases rcond2 h with ⟨-, h⟩ | ⟨-, h⟩
            · rcases rcond2 h with ⟨-, h⟩ | ⟨-, h⟩
              · rcases rcond2 h with ⟨-, h⟩ | ⟨-, h⟩
                · rcases rcond2 h with ⟨hm, h⟩ | ⟨-, h⟩
                  · rw [Nat.eq_of_beq_eq_true hm]; exact rck_ok (tb := tr227) (fun _ => rfl) ck227 h
                  · cases h
                · rcases rcond2 h with ⟨hm, h⟩ | ⟨-, h⟩
                  · rw [Nat.eq_of_beq_eq_true hm]; exact rck_ok (tb := tr228) (fun _ => rfl) ck228 h
                  · cases h
              · rcases rcond2 h with ⟨-, h⟩ | ⟨-, h⟩
                · rcases rcond2 h with ⟨hm, h⟩ | ⟨-, h⟩
                  · rw [Nat.eq_of_beq_eq_true hm]; exact rck_ok (tb := tr229) (fun _ => rfl) ck229 h
                  · cases h
                · rcases rcond2 h with ⟨hm, h⟩ | ⟨-, h⟩
                  · rw [Nat.eq_of_beq_eq_true hm]; exact rck_ok (tb := tr230) (fun _ => rfl) ck230 h
                  · cases h
            · rcases rcond2 h with ⟨-, h⟩ | ⟨-, h⟩
              · rcases rcond2 h with ⟨-, h⟩ | ⟨-, h⟩
                · rcases rcond2 h with ⟨hm, h⟩ | ⟨-, h⟩
                  · rw [Nat.eq_of_beq_eq_true hm]; exact rck_ok (tb := tr231) (fun _ => rfl) ck231 h
                  · cases h
                · rcases rcond2 h with ⟨hm, h⟩ | ⟨-, h⟩
                  · rw [Nat.eq_of_beq_eq_true hm]; exact rck_ok (tb := tr232) (fun _ => rfl) ck232 h
                  · cases h
              · rcases rcond2 h with ⟨-, h⟩ | ⟨-, h⟩
                · rcases rcond2 h with ⟨hm, h⟩ | ⟨-, h⟩
                  · rw [Nat.eq_of_beq_eq_true hm]; exact rck_ok (tb := tr233) (fun _ => rfl) ck233 h
                  · cases h
                · rcases rcond2 h with ⟨hm, h⟩ | ⟨-, h⟩
                  · rw [Nat.eq_of_beq_eq_true hm]; exact rck_ok (tb := tr234) (fun _ => rfl) ck234 h
                  · cases h
        · rcases rcond2 h with ⟨-, h⟩ | ⟨-, h⟩
          · rcases rcond2 h with ⟨-, h⟩ | ⟨-, h⟩
            · rcases rcond2 h with ⟨-, h⟩ | ⟨-, h⟩
              · rcases rcond2 h with ⟨-, h⟩ | ⟨-, h⟩
                · rcases rcond2 h with ⟨hm, h⟩ | ⟨-, h⟩
                  · rw [Nat.eq_of_beq_eq_true hm]; exact rck_ok (tb := tr235) (fun _ => rfl) ck235 h
                  · cases h
                · rcases rcond2 h with ⟨hm, h⟩ | ⟨-, h⟩
                  · rw [Nat.eq_of_beq_eq_true hm]; exact rck_ok (tb := tr236) (fun _ => rfl) ck236 h
                  · cases h
              · rcases rcond2 h with ⟨-, h⟩ | ⟨-, h⟩
                · rcases rcond2 h with ⟨hm, h⟩ | ⟨-, h⟩
                  · rw [Nat.eq_of_beq_eq_true hm]; exact rck_ok (tb := tr237) (fun _ => rfl) ck237 h
                  · cases h
                · rcases rcond2 h with ⟨hm, h⟩ | ⟨-, h⟩
                  · rw [Nat.eq_of_beq_eq_true hm]; exact rck_ok (tb := tr238) (fun _ => rfl) ck238 h
                  · cases h
            · rcases rcond2 h with ⟨-, h⟩ | ⟨-, h⟩
              · rcases rcond2 h with ⟨-, h⟩ | ⟨-, h⟩
                · rcases rcond2 h with ⟨hm, h⟩ | ⟨-, h⟩
                  · rw [Nat.eq_of_beq_eq_true hm]; exact rck_ok (tb := tr239) (fun _ => rfl) ck239 h
                  · cases h
                · rcases rcond2 h with ⟨hm, h⟩ | ⟨-, h⟩
                  · rw [Nat.eq_of_beq_eq_true hm]; exact rck_ok (tb := tr240) (fun _ => rfl) ck240 h
                  · cases h
              · rcases rcond2 h with ⟨-, h⟩ | ⟨-, h⟩
                · rcases rcond2 h with ⟨hm, h⟩ | ⟨-, h⟩
                  · rw [Nat.eq_of_beq_eq_true hm]; exact rck_ok (tb := tr241) (fun _ => rfl) ck241 h
                  · cases h
                · rcases rcond2 h with ⟨hm, h⟩ | ⟨-, h⟩
                  · rw [Nat.eq_of_beq_eq_true hm]; exact rck_ok (tb := tr242) (fun _ => rfl) ck242 h
                  · cases h
          · rcases rcond2 h with ⟨-, h⟩ | ⟨-, h⟩
            · rcases rcond2 h with ⟨-, h⟩ | ⟨-, h⟩
              · rcases rcond2 h with ⟨-, h⟩ | ⟨-, h⟩
                · rcases rcond2 h with ⟨hm, h⟩ | ⟨-, h⟩
                  · rw [Nat.eq_of_beq_eq_true hm]; exact rck_ok (tb := tr243) (fun _ => rfl) ck243 h
                  · cases h
                · rcases rcond2 h with ⟨hm, h⟩ | ⟨-, h⟩
                  · rw [Nat.eq_of_beq_eq_true hm]; exact rck_ok (tb := tr244) (fun _ => rfl) ck244 h
                  · cases h
              · rcases rcond2 h with ⟨-, h⟩ | ⟨-, h⟩
                · rcases rcond2 h with ⟨hm, h⟩ | ⟨-, h⟩
                  · rw [Nat.eq_of_beq_eq_true hm]; exact rck_ok (tb := tr245) (fun _ => rfl) ck245 h
                  · cases h
                · rcases rcond2 h with ⟨hm, h⟩ | ⟨-, h⟩
                  · rw [Nat.eq_of_beq_eq_true hm]; exact rck_ok (tb := tr246) (fun _ => rfl) ck246 h
                  · cases h
            · rcases rcond2 h with ⟨-, h⟩ | ⟨-, h⟩
              · rcases rcond2 h with ⟨-, h⟩ | ⟨-, h⟩
                · rcases rcond2 h with ⟨hm, h⟩ | ⟨-, h⟩
                  · rw [Nat.eq_of_beq_eq_true hm]; exact rck_ok (tb := tr247) (fun _ => rfl) ck247 h
                  · cases h
                · rcases rcond2 h with ⟨hm, h⟩ | ⟨-, h⟩
                  · rw [Nat.eq_of_beq_eq_true hm]; exact rck_ok (tb := tr248) (fun _ => rfl) ck248 h
                  · cases h
              · rcases rcond2 h with ⟨-, h⟩ | ⟨-, h⟩
                · rcases rcond2 h with ⟨hm, h⟩ | ⟨-, h⟩
                  · rw [Nat.eq_of_beq_eq_true hm]; exact rck_ok (tb := tr249) (fun _ => rfl) ck249 h
                  · cases h
                · rcases rcond2 h with ⟨hm, h⟩ | ⟨-, h⟩
                  · rw [Nat.eq_of_beq_eq_true hm]; exact rck_ok (tb := tr250) (fun _ => rfl) ck250 h
                  · cases h

